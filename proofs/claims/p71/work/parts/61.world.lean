/-! TWO POOLS in one heap: the class's cells (L, f) and the reference's (K, k) -/
def gG (E : gE) (A : Nat → Prop) (L : List Nat) (f : gF) (K : List Nat) (k : gF) (H0 H : Heap) (locs : List Loc) : Prop :=
  gH E A L f H0 H locs ∧ va_P (E.1, E.2.1) vwCl (va_pl K k) H ∧ va_D A (va_pl K k) ∧ ∀ a ∈ K, a ∉ L
theorem gG.swap {E : gE} {A : Nat → Prop} {L K : List Nat} {f k : gF} {H0 H : Heap} {locs : List Loc} (h : gG E A L f K k H0 H locs) : gG E A K k L f H0 H locs := ⟨⟨h.2.1, h.2.2.1, h.1.2.2⟩, h.1.1, h.1.2.1, fun a ha hb => h.2.2.2 a hb ha⟩
theorem g_memL {L : List Nat} {f : gF} {i a : Nat} {x : va_E} (h : (va_pl L f)[i]? = some (a, x)) : a ∈ L := by
  obtain ⟨b, hb, e⟩ := List.mem_map.mp (List.mem_of_getElem? h)
  cases e
  exact hb
theorem g_notA {L : List Nat} {f : gF} {sz a : Nat} (h : a ∉ L) (hs : a < sz) : ¬ gA L f sz a := by
  intro q
  rcases q with ⟨i, x, hx⟩ | q
  · exact h (g_memL hx)
  · omega
theorem gG.frame {E : gE} {A : Nat → Prop} {L K L1 : List Nat} {f k f1 : gF} {H0 H H1 : Heap} {locs locs1 : List Loc} (h : gG E A L f K k H0 H locs) (hF : ∀ q, gA L f H.size q → A q) (hP1 : va_P (E.1, E.2.1) vwCl (va_pl L1 f1) H1) (hD1 : va_D (gA L f H.size) (va_pl L1 f1)) (hk1 : ∀ q : Nat, q < H.size → ¬ gA L f H.size q → H1[q]? = H[q]?) (hS : va_S A H0 H1 locs1) : gG E A L1 f1 K k H0 H1 locs1 := by
  have hlt : ∀ a ∈ K, a < H.size := fun a ha => va_pl_lt (X := []) (f := k) h.2.1 ha
  refine ⟨⟨hP1, hD1.weaken (fun _ _ _ q => hF _ q), hS⟩, h.2.1.kept (fun i q hq => ?_), h.2.2.1, fun a ha hb => ?_⟩
  · have hm : q.1 ∈ K := g_memL (f := k) (x := q.2) hq
    exact hk1 _ (hlt _ hm) (g_notA (h.2.2.2 _ hm) (hlt _ hm))
  · obtain ⟨i, hi⟩ := g_at (f := f1) hb
    exact g_notA (h.2.2.2 _ ha) (hlt _ ha) (hD1.2 i _ hi)
theorem g_pl_up {L : List Nat} {f : gF} {q : Nat} {x : va_E} (h : q ∉ L) : va_pl L (va_up f q x) = va_pl L f := by
  unfold va_pl
  apply List.map_congr_left
  intro b hb
  rw [va_up_ne _ _ (show b ≠ q from fun e => h (e ▸ hb))]
theorem g_split {E : gE} {A : Nat → Prop} {L : List Nat} {q : Nat} {f : gF} {x : va_E} {H0 H : Heap} {locs : List Loc} (hq : q ∉ L) (h : gH E A (L ++ [q]) (va_up f q x) H0 H locs) : gG E A [q] (va_up f q x) L f H0 H locs := by
  have e : va_pl (L ++ [q]) (va_up f q x) = va_pl L f ++ va_pl [q] (va_up f q x) := by rw [← g_pl_up (x := x) (f := f) hq]; exact List.map_append
  obtain ⟨h1, h2, h3⟩ := h
  rw [e] at h1 h2
  have hlen : ∀ i, (va_pl L f ++ va_pl [q] (va_up f q x))[(va_pl L f).length + i]? = (va_pl [q] (va_up f q x))[i]? := fun i => by rw [List.getElem?_append_right (by omega), Nat.add_sub_cancel_left]
  have hlft : ∀ (i : Nat) (z : Nat × va_E), (va_pl L f)[i]? = some z → (va_pl L f ++ va_pl [q] (va_up f q x))[i]? = some z := fun i z hz => by rw [List.getElem?_append_left (List.getElem?_eq_some_iff.mp hz).1]; exact hz
  refine ⟨⟨fun i z hz => h1 ((va_pl L f).length + i) z (by rw [hlen]; exact hz), ⟨fun i j a b ha hb hab => ?_, fun i z hz => h2.2 ((va_pl L f).length + i) z (by rw [hlen]; exact hz)⟩, h3⟩, fun i z hz => h1 i z (hlft i z hz), ⟨fun i j a b ha hb hab => h2.1 i j a b (hlft i a ha) (hlft j b hb) hab, fun i z hz => h2.2 i z (hlft i z hz)⟩, fun a ha hb => ?_⟩
  · have := h2.1 ((va_pl L f).length + i) ((va_pl L f).length + j) a b (by rw [hlen]; exact ha) (by rw [hlen]; exact hb) hab
    omega
  · rcases List.mem_cons.mp hb with e2 | e2
    · exact hq (e2 ▸ ha)
    · cases e2
section GL
variable {p : Program} {l : Launch} {e : Env} {R : Room} {s : State} {m : MethodId} {args : Array Value} {below : List Frame} {meth : Method} {c : Code} {H H0 : Heap} {locs : List Loc} {cells slots : Nat} {Q : State → Prop}
variable {E : gE} {cc : ByteArray} {nl : Nat} {own : String} {A : Nat → Prop} {L K : List Nat} {f k : gF} {pc : Nat} {ls : Array Slot} {rest : List Value} {a : Nat}
theorem g_calliG {mc ms : Nat} {st0 : List Value} {av : Array Value} {post : Int32 → List Nat → gF → Prop} (hG : gG E A L f K k H0 H locs) (hA : ∀ q, H0.size ≤ q → A q) (hr : va_Run p l e R s m args below meth c H locs cells slots mc ms (F0 m pc ls st0) rest (gQi E (gA L f H.size) post av) (gA L f H.size))
    (kk : ∀ (r : Int32) (L1 : List Nat) (f1 : gF) (H1 : Heap) (locs1 : List Loc), post r L1 f1 → gG E A L1 f1 K k H0 H1 locs1 → W p l e R s m args below meth c H1 locs1 (cells + mc) (slots + ms) Q (F0 m (pc + 3) ls (.int r :: rest))) : W p l e R s m args below meth c H locs cells slots Q (F0 m pc ls st0) := by
  have hF := g_free hG.1 hA
  refine va_calli hr hG.1.2.2 (fun q _ h => hF q h) hF (fun r u t H1 locs1 ht hvm hw hB hz1 hk1 hS => ?_)
  obtain ⟨hP1, hD1⟩ := hB
  rw [ht] at hP1
  exact kk r u.1 u.2 H1 locs1 hw (hG.frame hF hP1 hD1 hk1 hS)
theorem g_callvG {mc ms : Nat} {st0 : List Value} {av : Array Value} {post : List Nat → gF → Prop} (hG : gG E A L f K k H0 H locs) (hA : ∀ q, H0.size ≤ q → A q) (hr : va_Run p l e R s m args below meth c H locs cells slots mc ms (F0 m pc ls st0) rest (gQv E (gA L f H.size) post av) (gA L f H.size))
    (kk : ∀ (L1 : List Nat) (f1 : gF) (H1 : Heap) (locs1 : List Loc), post L1 f1 → gG E A L1 f1 K k H0 H1 locs1 → W p l e R s m args below meth c H1 locs1 (cells + mc) (slots + ms) Q (F0 m (pc + 3) ls rest)) : W p l e R s m args below meth c H locs cells slots Q (F0 m pc ls st0) := by
  have hF := g_free hG.1 hA
  refine va_callv hr hG.1.2.2 (fun q _ h => hF q h) hF (fun u t H1 locs1 ht hvm hw hB hz1 hk1 hS => ?_)
  obtain ⟨hP1, hD1⟩ := hB
  rw [ht] at hP1
  exact kk u.1 u.2 H1 locs1 hw (hG.frame hF hP1 hD1 hk1 hS)
theorem g_ViG (C : gC E cc nl own p s m args meth c) (hls : ls.size = nl) (hA : ∀ q, H0.size ≤ q → A q) (hG : gG E A L f K k H0 H locs) {Cn : String} {y : MethodName} {bytes : ByteArray} {maxL n index ci N : Nat} {ret : FieldType} {rm : Room} {b : Nat} {As st0 fs : List Value} {T : u_T} {post : Int32 → List Nat → gF → Prop} (M : gMi l E y bytes maxL ret rm (.ref b :: As) L f post) (wy : gWV Cn y bytes maxL (some ret) n) (hl : Cond.methodLink own index y ∈ gW) (hb : b ∈ L) (hfb : f b = .inr (ci, fs)) (hc : vwCl[ci]? = some (Cn, T, N)) (hn : As.length = n) (hst : st0 = As.reverse ++ .ref b :: rest) (hw : (rest.map fun v => v.category).sum ≤ 8) (hR : rm.frames + 1 ≤ R.frames ∧ 8 + (maxL + 11) + rm.locals ≤ R.locals) (hcs : cells + rm.cells ≤ R.cells ∧ slots + rm.slots ≤ R.slots) (hdg : decode cc pc = .ok (.invokevirtual index, 3))
    (kk : ∀ (r : Int32) (L1 : List Nat) (f1 : gF) (H1 : Heap) (locs1 : List Loc), post r L1 f1 → gG E A L1 f1 K k H0 H1 locs1 → W p l e R s m args below meth c H1 locs1 (cells + rm.cells) (slots + rm.slots) Q (F0 m (pc + 3) ls (.int r :: rest))) : W p l e R s m args below meth c H locs cells slots Q (F0 m pc ls st0) := by
  refine g_calliG hG hA (va_runV (As := As) (b := b) (rest := rest) ⟨C.1, C.2.1, C.2.2.1, C.2.2.2.1, C.2.2.2.2.1⟩ (M H.size) (g_cwV C.2.2.2.2.1 wy hl hR) ⟨g_blind, g_recv C hG.1 hb hfb hc, g_pre C hG.1 _⟩ rfl hn hls hst (lv_room hw) hdg hcs) kk
theorem g_IvG (C : gC E cc nl own p s m args meth c) (hls : ls.size = nl) (hA : ∀ q, H0.size ≤ q → A q) (hG : gG E A L f K k H0 H locs) {Cn : String} {y : MethodName} {bytes : ByteArray} {maxL n index : Nat} {rm : Room} {b : Nat} {As st0 : List Value} {post : List Nat → gF → Prop} (M : gMv l E y bytes maxL rm (.ref b :: As) L f post) (wy : gWI Cn y bytes maxL n) (hl : Cond.methodLink own index y ∈ gW) (hn : As.length = n) (hst : st0 = As.reverse ++ .ref b :: rest) (hw : (rest.map fun v => v.category).sum ≤ 8) (hR : rm.frames + 1 ≤ R.frames ∧ 8 + (maxL + 11) + rm.locals ≤ R.locals) (hcs : cells + rm.cells ≤ R.cells ∧ slots + rm.slots ≤ R.slots) (hdg : decode cc pc = .ok (.invokespecial index, 3))
    (kk : ∀ (L1 : List Nat) (f1 : gF) (H1 : Heap) (locs1 : List Loc), post L1 f1 → gG E A L1 f1 K k H0 H1 locs1 → W p l e R s m args below meth c H1 locs1 (cells + rm.cells) (slots + rm.slots) Q (F0 m (pc + 3) ls rest)) : W p l e R s m args below meth c H locs cells slots Q (F0 m pc ls st0) :=
  g_callvG hG hA (va_runI (As := As) (b := b) (rest := rest) ⟨C.1, C.2.1, C.2.2.1, C.2.2.2.1, C.2.2.2.2.1⟩ (M H.size) (cwI n C.2.2.2.2.1 (g_goodC wy.1.2.2) rfl rfl rfl (by rw [wy.2.1.1]; exact C.2.2.2.2.1 _ wy.1.2.1) (C.2.2.2.2.1 _ hl) (C.2.2.2.2.1 _ wy.1.1) wy.2.2 wy.2.1.2 hR) ⟨g_blind, g_pre C hG.1 _⟩ rfl hn hls hst (lv_room hw) hdg hcs) kk
end GL
/-! THE CLAIM OUT OF ONE WALK OF THE LAW'S BODY. Your part is whole_start (and what it stands on); all else here is the same for every law, but numbers. -/
def R_law : String := "GooseSharesLaw"
def lw_P (b : Addr) (xs : List Int32) (args : Array Value) (s : State) : Prop := args = #[.ref b] ∧ s.IntsAt b xs ∧ xs.length ≤ 3072 ∧ (Jvm.Cond.and given_1 narrow_1).before args s = true
def lw_Q (_ : Array Value) (s : State) (o : Outcome) (t : State) : Prop := o = .returned (some (.int 1)) ∧ Framed s o t [] 600000 7302249
def lw_Z (below : List Frame) (a : Array Value) (s : State) : State → Prop := fun t => ∃ o, t.status = .running ∧ Ended t below o ∧ lw_Q a s o t
/-- the law's own end, with 1 on the stack, nothing written that was there before, its room as the claim has it -/
theorem lw_ret {p : Program} {l : Launch} {e : Env} {s : State} {m : MethodId} {below : List Frame} {meth : Method} {c : Code} {b : Nat} (hx : p.tables.exec = Jvm.exec) (hb : c.code = code) (hr : meth.sig.returnType = ret) (hlocks : meth.locks = false) {pc : Nat} {H : Heap} {ls : Array Slot} (hdg : decode code pc = .ok (.ireturn, 1)) : W p l e room_1 s m #[Value.ref b] below meth c H [] 600000 7302249 (lw_Z below #[Value.ref b] s) (F0 m pc ls [.int 1]) := by
  intro T hT X
  obtain ⟨fs, hret, hrun, hended, hW, hframe⟩ := X.leave (v := some (.int 1)) (hlocks := hlocks) (fun h => by rw [hr] at h; cases h)
  have hmeth' : T.vm.method? m = some meth := X.method'
  refine ⟨T.setFrames fs, ?_, .returned (some (.int 1)), hrun, hended, rfl, ⟨_, rfl⟩, hW, hframe⟩
  jvm_step X.here [X.here.top, hx, hb, hdg, hmeth', hr, ret, narrow_b1]
  (try refine ⟨rfl, ?_⟩); (try refine ⟨rfl, ?_⟩)
  first | (intro acts; rw [hret _ acts rfl rfl rfl]) | rw [hret _ _ rfl rfl rfl]
  exact Steps.refl _
/-- what holds at the law's entry: the machine, the code, the tables' words (any of lw_tbl by 'hts w (by decide +kernel)'), the script of L ints xs at the cell b, what the Statement gives of the start (any of its parts by flat_of_before) -/
def lw_At (p : Program) (s : State) (m : MethodId) (meth : Method) (c : Code) (b L : Nat) (xs : Nat → Int32) : Prop :=
  p.tables.exec = Jvm.exec ∧ c.code = code ∧ meth.sig.returnType = ret ∧ c.maxLocals = 4 ∧ s.vm.findClass R_law = some m.cls ∧ (∀ w ∈ lw_tbl, w.before #[Value.ref b] s = true) ∧ va_X b L xs s s.heap ∧ b < s.heap.size ∧ meth.locks = false ∧ (Jvm.Cond.and given_1 narrow_1).before #[Value.ref b] s = true
def gLw (E : gE) (p : Program) (s : State) (m : MethodId) (meth : Method) (c : Code) (b n : Nat) (sc : Nat → Int32) : Prop := gC E cL_law 4 RL p s m #[Value.ref b] meth c ∧ meth.sig.returnType = ret ∧ va_X b n sc s s.heap ∧ b < s.heap.size
/-! THE LAW over the typed pools: the class's (L, τ, f) and the reference's (K, σ, k) -/
def iX (E : gE) (L : List Nat) (τ : Nat → Nat) (f : gF) (x : Nat) : Prop := tI E L τ f ∧ x ∈ L ∧ τ x = 0 ∧ ∀ a ∈ L, ∀ b ∈ L, τ a = 3 → τ b = 3 → a = b
def iY (E : gE) (K : List Nat) (σ : Nat → Nat) (k : gF) (y : Nat) : Prop := tI E K σ k ∧ y ∈ K ∧ σ y = 40 ∧ (∀ a ∈ K, ∀ b ∈ K, σ a = σ b → a = b) ∧ ∃ vl vh : Nat → Int32, isA E K σ k 46 5 vl ∧ isA E K σ k 47 45 vh ∧ rowsR vl vh
theorem iX.S {E : gE} {L : List Nat} {τ : Nat → Nat} {f f1 : gF} {x : Nat} {ws : List Nat} (h : iX E L τ f x) (s : tS E L τ ws f f1) : iX E L τ f1 x := ⟨s.1, h.2.1, h.2.2.1, h.2.2.2⟩
theorem iY.S {E : gE} {K : List Nat} {σ : Nat → Nat} {k k1 : gF} {y : Nat} {ws : List Nat} (h : iY E K σ k y) (s : tS E K σ ws k k1) (h6 : ws.contains 46 = false) (h7 : ws.contains 47 = false) : iY E K σ k1 y := by
  obtain ⟨-, m, t, u, vl, vh, hl, hh, hR⟩ := h
  exact ⟨s.1, m, t, u, vl, vh, hl.S s h6, hh.S s h7, hR⟩
theorem iY.W {E : gE} {K : List Nat} {σ : Nat → Nat} {k k1 : gF} {y : Nat} {ws : List Nat} (h : iY E K σ k y) (s : tS E K σ ws k k1) (w : ∃ vl vh : Nat → Int32, isA E K σ k1 46 5 vl ∧ isA E K σ k1 47 45 vh ∧ rowsR vl vh) : iY E K σ k1 y := ⟨s.1, h.2.1, h.2.2.1, h.2.2.2.1, w⟩
theorem iY.uq {E : gE} {K : List Nat} {σ : Nat → Nat} {k : gF} {y : Nat} (h : iY E K σ k y) (t : Nat) : uq K σ t := fun a ma b mb ea eb => h.2.2.2.1 a ma b mb (ea.trans eb.symm)
theorem iY.m {E : gE} {K : List Nat} {σ : Nat → Nat} {k : gF} {y : Nat} (h : iY E K σ k y) : ∃ (vm : Nat → Int32) (vc : Nat → Int64), isA E K σ k 42 4 vm ∧ isJ E K σ k 43 240 vc := by
  obtain ⟨a, ma, ta, -⟩ := t_fldr h.1 h.2.1 h.2.2.1 td_40 (k := 2) rfl
  obtain ⟨c, mc, tc, -⟩ := t_fldr h.1 h.2.1 h.2.2.1 td_40 (k := 3) rfl
  obtain ⟨vm, hm, -⟩ := t_arr h.1 ma ta td_42
  obtain ⟨vc, hc⟩ := t_arrJ h.1 mc tc td_43
  refine ⟨vm, vc, fun b mb tb => ?_, fun b mb tb => ?_⟩
  · rw [h.uq 42 b mb a ma tb ta]
    exact hm
  · rw [h.uq 43 b mb c mc tb tc]
    exact hc
section GT
variable {p : Program} {l : Launch} {e : Env} {R : Room} {s : State} {m : MethodId} {args : Array Value} {below : List Frame} {meth : Method} {c : Code} {H : Heap} {locs : List Loc} {cells slots : Nat} {Q : State → Prop}
variable {E : gE} {J : Nat → Nat} {cc : ByteArray} {nl : Nat} {own : String} {A : Nat → Prop} {L K : List Nat} {τ : Nat → Nat} {f k : gF} {pc : Nat} {ls : Array Slot} {rest : List Value} {a t : Nat}
theorem t_ViG (C : gC E cc nl own p s m args meth c) (hO : oW J A s s.heap) (hls : ls.size = nl) (hA : ∀ q, s.heap.size ≤ q → A q) (hG : gG E A L f K k s.heap H locs) (hI : tI E L τ f) {Cn : String} {y : MethodName} {bytes : ByteArray} {maxL n index ci N : Nat} {ds : List gFd} {ret : FieldType} {rm : Room} {b : Nat} {As st0 : List Value} {T : u_T} {post : Int32 → List Nat → gF → Prop} (M : tMi l E J y bytes maxL ret rm (.ref b :: As) L f post) (wy : gWV Cn y bytes maxL (some ret) n) (hl : Cond.methodLink own index y ∈ gW) (hb : b ∈ L) (htb : τ b = t) (hd : tTab[t]? = some (.inl (ci, ds))) (hc : vwCl[ci]? = some (Cn, T, N)) (hn : As.length = n) (hst : st0 = As.reverse ++ .ref b :: rest) (hw : (rest.map fun v => v.category).sum ≤ 8) (hR : rm.frames + 1 ≤ R.frames ∧ 8 + (maxL + 11) + rm.locals ≤ R.locals) (hz : rm.cells = 0 ∧ rm.slots = 0) (hcs : cells ≤ R.cells ∧ slots ≤ R.slots) (hdg : decode cc pc = .ok (.invokevirtual index, 3))
    (kk : ∀ (r : Int32) (L1 : List Nat) (f1 : gF) (H1 : Heap) (locs1 : List Loc), post r L1 f1 → gG E A L1 f1 K k s.heap H1 locs1 → W p l e R s m args below meth c H1 locs1 cells slots Q (F0 m (pc + 3) ls (.int r :: rest))) : W p l e R s m args below meth c H locs cells slots Q (F0 m pc ls st0) := by
  refine g_calliG hG hA (va_runV (As := As) (b := b) (rest := rest) ⟨C.1, C.2.1, C.2.2.1, C.2.2.2.1, C.2.2.2.2.1⟩ (M H.size) (g_cwV C.2.2.2.2.1 wy hl hR) ⟨t_blind, t_recv C hG.1 hI hb htb hd hc, t_pre C hO hA hG.1 _⟩ rfl hn hls hst (lv_room hw) hdg ⟨by rw [hz.1]; exact hcs.1, by rw [hz.2]; exact hcs.2⟩) (fun r L1 f1 H1 locs1 hp hG1 => ?_)
  rw [hz.1, hz.2]
  exact kk r L1 f1 H1 locs1 hp hG1
end GT
theorem lw_in {i c : Int32} {n : Nat} (h0 : 0 ≤ i.toInt) (h6 : i.toInt + 6 ≤ (n : Int)) (hn : n ≤ 3072) (hc : (0 : Int) ≤ c.toInt ∧ c.toInt ≤ 5) : vp_in (i + c) n := by
  refine vp_in_iff.mpr ?_
  rw [Int32.toInt_add, bmI (by omega) (by omega)]
  omega
theorem lw_in0 {i : Int32} {n : Nat} (h0 : 0 ≤ i.toInt) (h6 : i.toInt + 6 ≤ (n : Int)) : vp_in i n := vp_in_iff.mpr ⟨h0, by omega⟩
theorem lw_z {n : Nat} {z : Int32} (hn : n ≤ 3072) (e : z = Int32.ofNat n - 6) : z.toInt = (n : Int) - 6 := by
  have t6 : (6 : Int32).toInt = 6 := by decide
  rw [e, Int32.toInt_sub, Int32.toInt_ofNat_of_lt (by omega), t6, bmI (by omega) (by omega)]
theorem lw_6 {n : Nat} {i z : Int32} (h0 : 0 ≤ i.toInt) (h6 : i.toInt + 6 ≤ (n : Int)) (hn : n ≤ 3072) (e : z = i + 6) : z.toInt = i.toInt + 6 := by
  have t6 : (6 : Int32).toInt = 6 := by decide
  rw [e, Int32.toInt_add, t6, bmI (by omega) (by omega)]
/-! what lies outside at the start -/
theorem gStr_inj : ∀ q ∈ gStr, ∀ r ∈ gStr, q.1 = r.1 → q = r := by decide +kernel
theorem gStr_pos : ∀ q ∈ gStr, q.1 ≠ 0 := by decide +kernel
theorem lw_str {args : Array Value} {s : State} {k n : Nat} {tx : String} {byt : List Int32} {A : Nat → Prop} (hN : n < 2 ^ 31) (hex : (Cond.exactly (.string "GooseShares$Reader" k) "java/lang/String").before args s = true) (hco : (Cond.eq (.field (.string "GooseShares$Reader" k) "java/lang/String" "coder" "B") (.int 0)).before args s = true) (har : (Cond.arrayOf (.field (.string "GooseShares$Reader" k) "java/lang/String" "value" "[B") .byte).before args s = true) (hle : (Cond.eq (.length (.field (.string "GooseShares$Reader" k) "java/lang/String" "value" "[B")) (.int (Int32.ofNat n))).before args s = true) (hel : ∀ j : Nat, j < n → (Cond.eq (.elem (.field (.string "GooseShares$Reader" k) "java/lang/String" "value" "[B") (.int (Int32.ofNat j))) (.int (byt.getD j 0))).before args s = true) (hsr : (Cond.stringRef "GooseShares$Reader" k tx).before args s = true) (hA : ∀ a : Nat, a < s.heap.size → ¬ A a) : ∃ p : Nat × Nat, vk_R "GooseShares$Reader" k tx p.1 s ∧ oS p.1 p.2 n A s s.heap := by
  obtain ⟨a, c, cA, kA, q1, q2, q3, q4, q5, q6, -⟩ := Cond.exactly_spec (args := args) (first := s) (o := none) (s := s) (idx := []) (t := .string "GooseShares$Reader" k) (cls := "java/lang/String") hex
  obtain ⟨t, ht, hT⟩ := va_Tof (f := fun j => .int (byt.getD j 0)) (A := A) hN har (va_eqt hle) (fun j hj => va_eqt (hel j hj)) hA
  exact ⟨(a, t), vk_R.of hsr q1, ⟨cA, q3, q5, by rw [q6]; exact q2, hA a (Array.getElem?_eq_some_iff.mp q3).1⟩, vk_OFof q1 (va_eqt hco) hA, vk_OFof q1 ht hA, _, hT⟩
/-- rows: widths and lengths are the same on both sides -/
def rel (E : gE) (_ : List Nat) (_ : Nat → Nat) (f : gF) (x : Nat) (K : List Nat) (σ : Nat → Nat) (k : gF) : Prop := rowInj f x ∧ ∃ vw vm : Nat → Int32, rowsIn f x vw vm ∧ isA E K σ k 41 4 vw ∧ isA E K σ k 42 4 vm
theorem rel.S {E : gE} {L K : List Nat} {τ σ : Nat → Nat} {f f1 k k1 : gF} {x : Nat} {ws us : List Nat} (h : rel E L τ f x K σ k) (s1 : tS E L τ ws f f1) (s2 : tS E K σ us k k1) (hX : iX E L τ f x) (h1 : ws.contains 16 = false) (h2 : ws.contains 17 = false) (h3 : us.contains 41 = false) (h4 : us.contains 42 = false) : rel E L τ f1 x K σ k1 := by
  obtain ⟨hJ, vw, vm, hw, h5, h6⟩ := h
  exact ⟨hJ.S hX.1 s1 hX.2.1 hX.2.2.1 h1, vw, vm, hw.S hX.1 s1 hX.2.1 hX.2.2.1 h1 h2, h5.S s2 h3, h6.S s2 h4⟩
set_option maxHeartbeats 4000000 in
set_option maxRecDepth 100000 in
theorem oW_start {b : Nat} {s : State} (hgv : (Jvm.Cond.and given_1 narrow_1).before #[Value.ref b] s = true) (hts : ∀ w ∈ lw_tbl, w.before #[Value.ref b] s = true) : ∃ J : Nat → Nat, oW J (fun q : Nat => s.heap.size ≤ q) s s.heap := by
  have hs := flat_of_before _ hgv
  have hA : ∀ a : Nat, a < s.heap.size → ¬ (fun q : Nat => s.heap.size ≤ q) a := fun a h => Nat.not_le.mpr h
  have hfe : ∀ j : Nat, j < 7 → (Cond.eq (.elem (.static "GooseShares$Lanterns" "FACTORIALS" "[I") (.int (Int32.ofNat j))) (.int (([1, 1, 2, 6, 24, 120, 720] : List Int32).getD j 0))).before #[Value.ref b] s = true := by
    intro j hj
    match j, hj with
    | 0, _ => exact hs _ (by decide +kernel)
    | 1, _ => exact hs _ (by decide +kernel)
    | 2, _ => exact hs _ (by decide +kernel)
    | 3, _ => exact hs _ (by decide +kernel)
    | 4, _ => exact hs _ (by decide +kernel)
    | 5, _ => exact hs _ (by decide +kernel)
    | 6, _ => exact hs _ (by decide +kernel)
    | j + 7, h => exact absurd h (by omega)
  obtain ⟨fa, hfa, hT⟩ := va_Tof (tm := .static "GooseShares$Lanterns" "FACTORIALS" "[I") (ty := .int) (N := 7) (f := fun j => .int (([1, 1, 2, 6, 24, 120, 720] : List Int32).getD j 0)) (A := (fun q : Nat => s.heap.size ≤ q)) (by decide) (hs _ (by decide +kernel)) (va_eqt (hs _ (by decide +kernel))) (fun j hj => va_eqt (hfe j hj)) hA
  have hZ := va_Zref (A := (fun q : Nat => s.heap.size ≤ q)) (hts _ (tm_5 141 (by decide +kernel))) (hts _ (tm_1 6 (by decide +kernel))) hfa hA
  have hC : va_Z "java/lang/String" "COMPACT_STRINGS" "Z" (.int 1) (fun q : Nat => s.heap.size ≤ q) s s.heap := va_Zof (hts _ (tm_2 185 (by decide +kernel))) (hts _ (tm_1 12 (by decide +kernel))) (va_eqt (hs _ (by decide +kernel))) hA
  have hQ : va_Zq "jdk/internal/util/Preconditions" "SIOOBE_FORMATTER" "Ljava/util/function/BiFunction;" (fun q : Nat => s.heap.size ≤ q) s s.heap := va_Zqof (hts _ (tm_2 201 (by decide +kernel))) (hts _ (tm_1 14 (by decide +kernel))) (hs _ (by decide +kernel)) hA
  have hstr : ∀ q ∈ gStr, ∃ p : Nat × Nat, vk_R "GooseShares$Reader" q.1 q.2.1 p.1 s ∧ oS p.1 p.2 q.2.2 (fun q : Nat => s.heap.size ≤ q) s s.heap := by
    intro q hq
    simp only [gStr, List.mem_cons, List.not_mem_nil, or_false] at hq
    rcases hq with rfl | rfl | rfl | rfl | rfl | rfl | rfl | rfl | rfl | rfl | rfl | rfl | rfl | rfl
    · refine lw_str (k := 52) (tx := "flight") (n := 6) (byt := [102, 108, 105, 103, 104, 116]) (by decide) (hs _ (by decide +kernel)) (hs _ (by decide +kernel)) (hs _ (by decide +kernel)) (hs _ (by decide +kernel)) (fun j hj => ?_) (hts _ (tm_3 4 (by decide +kernel))) hA
      match j, hj with
      | 0, _ => exact hs _ (by decide +kernel)
      | 1, _ => exact hs _ (by decide +kernel)
      | 2, _ => exact hs _ (by decide +kernel)
      | 3, _ => exact hs _ (by decide +kernel)
      | 4, _ => exact hs _ (by decide +kernel)
      | 5, _ => exact hs _ (by decide +kernel)
      | j + 6, h => exact absurd h (by omega)
    · refine lw_str (k := 61) (tx := "member") (n := 6) (byt := [109, 101, 109, 98, 101, 114]) (by decide) (hs _ (by decide +kernel)) (hs _ (by decide +kernel)) (hs _ (by decide +kernel)) (hs _ (by decide +kernel)) (fun j hj => ?_) (hts _ (tm_3 16 (by decide +kernel))) hA
      match j, hj with
      | 0, _ => exact hs _ (by decide +kernel)
      | 1, _ => exact hs _ (by decide +kernel)
      | 2, _ => exact hs _ (by decide +kernel)
      | 3, _ => exact hs _ (by decide +kernel)
      | 4, _ => exact hs _ (by decide +kernel)
      | 5, _ => exact hs _ (by decide +kernel)
      | j + 6, h => exact absurd h (by omega)
    · refine lw_str (k := 66) (tx := "lamp") (n := 4) (byt := [108, 97, 109, 112]) (by decide) (hs _ (by decide +kernel)) (hs _ (by decide +kernel)) (hs _ (by decide +kernel)) (hs _ (by decide +kernel)) (fun j hj => ?_) (hts _ (tm_3 23 (by decide +kernel))) hA
      match j, hj with
      | 0, _ => exact hs _ (by decide +kernel)
      | 1, _ => exact hs _ (by decide +kernel)
      | 2, _ => exact hs _ (by decide +kernel)
      | 3, _ => exact hs _ (by decide +kernel)
      | j + 4, h => exact absurd h (by omega)
    · refine lw_str (k := 71) (tx := "at") (n := 2) (byt := [97, 116]) (by decide) (hs _ (by decide +kernel)) (hs _ (by decide +kernel)) (hs _ (by decide +kernel)) (hs _ (by decide +kernel)) (fun j hj => ?_) (hts _ (tm_3 9 (by decide +kernel))) hA
      match j, hj with
      | 0, _ => exact hs _ (by decide +kernel)
      | 1, _ => exact hs _ (by decide +kernel)
      | j + 2, h => exact absurd h (by omega)
    · refine lw_str (k := 85) (tx := "land") (n := 4) (byt := [108, 97, 110, 100]) (by decide) (hs _ (by decide +kernel)) (hs _ (by decide +kernel)) (hs _ (by decide +kernel)) (hs _ (by decide +kernel)) (fun j hj => ?_) (hts _ (tm_2 171 (by decide +kernel))) hA
      match j, hj with
      | 0, _ => exact hs _ (by decide +kernel)
      | 1, _ => exact hs _ (by decide +kernel)
      | 2, _ => exact hs _ (by decide +kernel)
      | 3, _ => exact hs _ (by decide +kernel)
      | j + 4, h => exact absurd h (by omega)
    · refine lw_str (k := 87) (tx := "wide") (n := 4) (byt := [119, 105, 100, 101]) (by decide) (hs _ (by decide +kernel)) (hs _ (by decide +kernel)) (hs _ (by decide +kernel)) (hs _ (by decide +kernel)) (fun j hj => ?_) (hts _ (tm_2 228 (by decide +kernel))) hA
      match j, hj with
      | 0, _ => exact hs _ (by decide +kernel)
      | 1, _ => exact hs _ (by decide +kernel)
      | 2, _ => exact hs _ (by decide +kernel)
      | 3, _ => exact hs _ (by decide +kernel)
      | j + 4, h => exact absurd h (by omega)
    · refine lw_str (k := 91) (tx := "high") (n := 4) (byt := [104, 105, 103, 104]) (by decide) (hs _ (by decide +kernel)) (hs _ (by decide +kernel)) (hs _ (by decide +kernel)) (hs _ (by decide +kernel)) (fun j hj => ?_) (hts _ (tm_3 0 (by decide +kernel))) hA
      match j, hj with
      | 0, _ => exact hs _ (by decide +kernel)
      | 1, _ => exact hs _ (by decide +kernel)
      | 2, _ => exact hs _ (by decide +kernel)
      | 3, _ => exact hs _ (by decide +kernel)
      | j + 4, h => exact absurd h (by omega)
    · refine lw_str (k := 95) (tx := "law") (n := 3) (byt := [108, 97, 119]) (by decide) (hs _ (by decide +kernel)) (hs _ (by decide +kernel)) (hs _ (by decide +kernel)) (hs _ (by decide +kernel)) (fun j hj => ?_) (hts _ (tm_3 1 (by decide +kernel))) hA
      match j, hj with
      | 0, _ => exact hs _ (by decide +kernel)
      | 1, _ => exact hs _ (by decide +kernel)
      | 2, _ => exact hs _ (by decide +kernel)
      | j + 3, h => exact absurd h (by omega)
    · refine lw_str (k := 99) (tx := "ear") (n := 3) (byt := [101, 97, 114]) (by decide) (hs _ (by decide +kernel)) (hs _ (by decide +kernel)) (hs _ (by decide +kernel)) (hs _ (by decide +kernel)) (fun j hj => ?_) (hts _ (tm_3 2 (by decide +kernel))) hA
      match j, hj with
      | 0, _ => exact hs _ (by decide +kernel)
      | 1, _ => exact hs _ (by decide +kernel)
      | 2, _ => exact hs _ (by decide +kernel)
      | j + 3, h => exact absurd h (by omega)
    · refine lw_str (k := 103) (tx := "odds") (n := 4) (byt := [111, 100, 100, 115]) (by decide) (hs _ (by decide +kernel)) (hs _ (by decide +kernel)) (hs _ (by decide +kernel)) (hs _ (by decide +kernel)) (fun j hj => ?_) (hts _ (tm_3 3 (by decide +kernel))) hA
      match j, hj with
      | 0, _ => exact hs _ (by decide +kernel)
      | 1, _ => exact hs _ (by decide +kernel)
      | 2, _ => exact hs _ (by decide +kernel)
      | 3, _ => exact hs _ (by decide +kernel)
      | j + 4, h => exact absurd h (by omega)
    · refine lw_str (k := 117) (tx := "heads") (n := 5) (byt := [104, 101, 97, 100, 115]) (by decide) (hs _ (by decide +kernel)) (hs _ (by decide +kernel)) (hs _ (by decide +kernel)) (hs _ (by decide +kernel)) (fun j hj => ?_) (hts _ (tm_3 14 (by decide +kernel))) hA
      match j, hj with
      | 0, _ => exact hs _ (by decide +kernel)
      | 1, _ => exact hs _ (by decide +kernel)
      | 2, _ => exact hs _ (by decide +kernel)
      | 3, _ => exact hs _ (by decide +kernel)
      | 4, _ => exact hs _ (by decide +kernel)
      | j + 5, h => exact absurd h (by omega)
    · refine lw_str (k := 122) (tx := "geese") (n := 5) (byt := [103, 101, 101, 115, 101]) (by decide) (hs _ (by decide +kernel)) (hs _ (by decide +kernel)) (hs _ (by decide +kernel)) (hs _ (by decide +kernel)) (fun j hj => ?_) (hts _ (tm_3 15 (by decide +kernel))) hA
      match j, hj with
      | 0, _ => exact hs _ (by decide +kernel)
      | 1, _ => exact hs _ (by decide +kernel)
      | 2, _ => exact hs _ (by decide +kernel)
      | 3, _ => exact hs _ (by decide +kernel)
      | 4, _ => exact hs _ (by decide +kernel)
      | j + 5, h => exact absurd h (by omega)
    · refine lw_str (k := 133) (tx := "wants") (n := 5) (byt := [119, 97, 110, 116, 115]) (by decide) (hs _ (by decide +kernel)) (hs _ (by decide +kernel)) (hs _ (by decide +kernel)) (hs _ (by decide +kernel)) (fun j hj => ?_) (hts _ (tm_3 21 (by decide +kernel))) hA
      match j, hj with
      | 0, _ => exact hs _ (by decide +kernel)
      | 1, _ => exact hs _ (by decide +kernel)
      | 2, _ => exact hs _ (by decide +kernel)
      | 3, _ => exact hs _ (by decide +kernel)
      | 4, _ => exact hs _ (by decide +kernel)
      | j + 5, h => exact absurd h (by omega)
    · refine lw_str (k := 137) (tx := "pays") (n := 4) (byt := [112, 97, 121, 115]) (by decide) (hs _ (by decide +kernel)) (hs _ (by decide +kernel)) (hs _ (by decide +kernel)) (hs _ (by decide +kernel)) (fun j hj => ?_) (hts _ (tm_3 22 (by decide +kernel))) hA
      match j, hj with
      | 0, _ => exact hs _ (by decide +kernel)
      | 1, _ => exact hs _ (by decide +kernel)
      | 2, _ => exact hs _ (by decide +kernel)
      | 3, _ => exact hs _ (by decide +kernel)
      | j + 4, h => exact absurd h (by omega)
  have h0 : ∀ k : Nat, ∃ p : Nat × Nat, ∀ q ∈ gStr, q.1 = k → vk_R "GooseShares$Reader" q.1 q.2.1 p.1 s ∧ oS p.1 p.2 q.2.2 (fun q : Nat => s.heap.size ≤ q) s s.heap := by
    intro k
    by_cases h : ∃ q ∈ gStr, q.1 = k
    · obtain ⟨q, hq, hk⟩ := h
      obtain ⟨p, hp⟩ := hstr q hq
      refine ⟨p, fun r hr hrk => ?_⟩
      rw [gStr_inj r hr q hq (hrk.trans hk.symm)]
      exact hp
    · exact ⟨(0, 0), fun q hq hk => absurd ⟨q, hq, hk⟩ h⟩
  obtain ⟨ad, had⟩ := Classical.axiomOfChoice h0
  obtain ⟨J, j0, j1, j2⟩ : ∃ J : Nat → Nat, J 0 = fa ∧ (∀ k, k ≠ 0 → J (2 * k) = (ad k).1) ∧ ∀ k, J (2 * k + 1) = (ad k).2 := by
    refine ⟨fun n => (if n = 0 then fa else if n % 2 = 0 then (ad (n / 2)).1 else (ad (n / 2)).2), if_pos rfl, fun k hk => ?_, fun k => ?_⟩
    · show (if (2 * k) = 0 then fa else if (2 * k) % 2 = 0 then (ad ((2 * k) / 2)).1 else (ad ((2 * k) / 2)).2) = _
      rw [if_neg (by omega), if_pos (by omega), show 2 * k / 2 = k by omega]
    · show (if (2 * k + 1) = 0 then fa else if (2 * k + 1) % 2 = 0 then (ad ((2 * k + 1) / 2)).1 else (ad ((2 * k + 1) / 2)).2) = _
      rw [if_neg (by omega), if_neg (by omega), show (2 * k + 1) / 2 = k by omega]
  refine ⟨J, ⟨by rw [j0]; exact hZ, by rw [j0]; exact hT⟩, hC, hQ, fun q hq => ?_⟩
  rw [j1 _ (gStr_pos q hq), j2]
  exact had q.1 q hq rfl
theorem gNest_in : ∀ q ∈ gNest, Cond.methodLinkNest q.1 q.2.1 q.2.2.1 q.2.2.2 ∈ lw_tbl := by
  exact List.forall_mem_cons.mpr ⟨tm_1 30 (by decide +kernel), List.forall_mem_cons.mpr ⟨tm_1 47 (by decide +kernel), List.forall_mem_cons.mpr ⟨tm_2 77 (by decide +kernel), List.forall_mem_cons.mpr ⟨tm_4 219 (by decide +kernel), List.forall_mem_cons.mpr ⟨tm_5 184 (by decide +kernel), List.forall_mem_cons.mpr ⟨tm_5 71 (by decide +kernel), List.forall_mem_cons.mpr ⟨tm_4 0 (by decide +kernel), List.forall_mem_cons.mpr ⟨tm_5 138 (by decide +kernel), List.forall_mem_cons.mpr ⟨tm_3 106 (by decide +kernel), fun _ h => absurd h List.not_mem_nil⟩⟩⟩⟩⟩⟩⟩⟩⟩
theorem g_start {args : Array Value} {s : State} (hts : ∀ w ∈ lw_tbl, w.before args s = true) : ∃ E : gE, gK E s := by
  have hg : ∀ w ∈ gW, w.before args s = true := fun w h => hts w (List.mem_filter.mp h).1
  obtain ⟨c0, i0, h0⟩ := u_known (n := 4) hg iX0 (hg _ wd1209)
  obtain ⟨c1, i1, h1⟩ := u_known (n := 2) hg iX1 (hg _ wd1219)
  obtain ⟨c2, i2, h2⟩ := u_known (n := 4) hg iX2 (hg _ wd1214)
  obtain ⟨c3, i3, h3⟩ := u_known (n := 20) hg iX3 (hg _ wd1189)
  obtain ⟨c4, i4, h4⟩ := u_known (n := 5) hg iX4 (hg _ wd1204)
  obtain ⟨c5, i5, h5⟩ := u_known (n := 7) hg iX5 (hg _ wd1193)
  obtain ⟨c6, i6, h6⟩ := u_known (n := 3) hg iX6 (hg _ wd1224)
  obtain ⟨c7, i7, h7⟩ := u_known (n := 10) hg iX7 (hg _ wd1199)
  obtain ⟨c8, i8, h8⟩ := u_known (n := 2) hg iX8 (hg _ wd1185)
  obtain ⟨c9, i9, h9⟩ := u_known (n := 11) hg iX9 (hg _ wd1228)
  obtain ⟨c10, i10, h10⟩ := u_known (n := 48) hg iX10 (hg _ wd1229)
  obtain ⟨a0, k0, m0, f0, g0, j0⟩ := Cond.arrayClass_spec (hg _ wd1174)
  obtain ⟨a1, k1, m1, f1, g1, j1⟩ := Cond.arrayClass_spec (hg _ wd1172)
  obtain ⟨a2, k2, m2, f2, g2, j2⟩ := Cond.arrayClass_spec (hg _ wd1176)
  obtain ⟨a3, k3, m3, f3, g3, j3⟩ := Cond.arrayClass_spec (hg _ wd1223)
  obtain ⟨m4, a4, k4, f4, -, g4, j4, n4⟩ := Cond.arrayOver_spec (hts (.arrayOver (.object "GooseShares$Land")) (tm_1 199 (by decide +kernel)))
  obtain ⟨m5, a5, k5, f5, -, g5, j5, n5⟩ := Cond.arrayOver_spec (hts (.arrayOver (.object "GooseShares$Row")) (tm_1 201 (by decide +kernel)))
  refine ⟨(fun q => [c0, c1, c2, c3, c4, c5, c6, c7, c8, c9, c10].getD q c0, fun q => [i0, i1, i2, i3, i4, i5, i6, i7, i8, i9, i10].getD q i0, fun q => [a0, a1, a2, a3, a4, a5].getD q a0), ⟨?_, ?_⟩, ?_, ?_, ?_⟩
  · intro q z hq
    match q, hq with
    | 0, hq => cases hq; exact h0
    | 1, hq => cases hq; exact h1
    | 2, hq => cases hq; exact h2
    | 3, hq => cases hq; exact h3
    | 4, hq => cases hq; exact h4
    | 5, hq => cases hq; exact h5
    | 6, hq => cases hq; exact h6
    | 7, hq => cases hq; exact h7
    | 8, hq => cases hq; exact h8
    | 9, hq => cases hq; exact h9
    | 10, hq => cases hq; exact h10
    | q + 11, hq => simp [vwCl] at hq
  · intro q z hq
    match q, hq with
    | 0, hq => cases hq; exact ⟨fun n z => ⟨(fun k h => by cases h), k0, g0, m0, j0⟩, f0⟩
    | 1, hq => cases hq; exact ⟨fun n z => ⟨(fun k h => by cases h), k1, g1, m1, j1⟩, f1⟩
    | 2, hq => cases hq; exact ⟨fun n z => ⟨(fun k h => by cases h), k2, g2, m2, j2⟩, f2⟩
    | 3, hq => cases hq; exact ⟨fun n z => ⟨(fun k h => by cases h), k3, g3, m3, j3⟩, f3⟩
    | 4, hq => cases hq; exact ⟨fun n z => ⟨(fun k h => by cases h), k4, g4, m4, j4⟩, k4, m4, g4, j4, f4, n4⟩
    | 5, hq => cases hq; exact ⟨fun n z => ⟨(fun k h => by cases h), k5, g5, m5, j5⟩, k5, m5, g5, j5, f5, n5⟩
    | q + 6, hq => simp [gTy] at hq
  · exact fun q hq => va_Nw.of rfl (hts _ (gNest_in q hq))
  · exact va_AO.of (hts (.arrayOver (.object "GooseShares$Land")) (tm_1 199 (by decide +kernel)))
  · exact va_AO.of (hts (.arrayOver (.object "GooseShares$Row")) (tm_1 201 (by decide +kernel)))
