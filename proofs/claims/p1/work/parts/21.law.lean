/-! TWO POOLS in one heap: the class's cells (L, f) and the reference's (K, k) -/
def gG (E : gE) (A : Nat → Prop) (L : List Nat) (f : gF) (K : List Nat) (k : gF) (H0 H : Heap) (locs : List Loc) : Prop :=
  gH E A L f H0 H locs ∧ va_P (E.1, E.2.1) vwCl (va_pl K k) H ∧ va_D A (va_pl K k) ∧ ∀ a ∈ K, a ∉ L
theorem gG.swap {E : gE} {A : Nat → Prop} {L K : List Nat} {f k : gF} {H0 H : Heap} {locs : List Loc} (h : gG E A L f K k H0 H locs) : gG E A K k L f H0 H locs := ⟨⟨h.2.1, h.2.2.1, h.1.2.2⟩, h.1.1, h.1.2.1, fun a ha hb => h.2.2.2 a hb ha⟩
theorem g_memL {L : List Nat} {f : gF} {i a : Nat} {x : va_E} (h : (va_pl L f)[i]? = some (a, x)) : a ∈ L := by
  obtain ⟨b, hb, e⟩ := List.mem_map.mp (List.mem_of_getElem? h)
  cases e
  exact hb
theorem g_notA {L : List Nat} {f : gF} {sz a : Nat} (h : a ∉ L) (hs : a < sz) : ¬ gA L f sz a := by
  intro q
  rcases q with ⟨i, x, hx⟩ | q
  · exact h (g_memL hx)
  · omega
theorem gG.frame {E : gE} {A : Nat → Prop} {L K L1 : List Nat} {f k f1 : gF} {H0 H H1 : Heap} {locs locs1 : List Loc} (h : gG E A L f K k H0 H locs) (hF : ∀ q, gA L f H.size q → A q) (hP1 : va_P (E.1, E.2.1) vwCl (va_pl L1 f1) H1) (hD1 : va_D (gA L f H.size) (va_pl L1 f1)) (hk1 : ∀ q : Nat, q < H.size → ¬ gA L f H.size q → H1[q]? = H[q]?) (hS : va_S A H0 H1 locs1) : gG E A L1 f1 K k H0 H1 locs1 := by
  have hlt : ∀ a ∈ K, a < H.size := fun a ha => va_pl_lt (X := []) (f := k) h.2.1 ha
  refine ⟨⟨hP1, hD1.weaken (fun _ _ _ q => hF _ q), hS⟩, h.2.1.kept (fun i q hq => ?_), h.2.2.1, fun a ha hb => ?_⟩
  · have hm : q.1 ∈ K := g_memL (f := k) (x := q.2) hq
    exact hk1 _ (hlt _ hm) (g_notA (h.2.2.2 _ hm) (hlt _ hm))
  · obtain ⟨i, hi⟩ := g_at (f := f1) hb
    exact g_notA (h.2.2.2 _ ha) (hlt _ ha) (hD1.2 i _ hi)
theorem g_pl_up {L : List Nat} {f : gF} {q : Nat} {x : va_E} (h : q ∉ L) : va_pl L (va_up f q x) = va_pl L f := by
  unfold va_pl
  apply List.map_congr_left
  intro b hb
  rw [va_up_ne _ _ (show b ≠ q from fun e => h (e ▸ hb))]
theorem g_split {E : gE} {A : Nat → Prop} {L : List Nat} {q : Nat} {f : gF} {x : va_E} {H0 H : Heap} {locs : List Loc} (hq : q ∉ L) (h : gH E A (L ++ [q]) (va_up f q x) H0 H locs) : gG E A [q] (va_up f q x) L f H0 H locs := by
  have e : va_pl (L ++ [q]) (va_up f q x) = va_pl L f ++ va_pl [q] (va_up f q x) := by rw [← g_pl_up (x := x) (f := f) hq]; exact List.map_append
  obtain ⟨h1, h2, h3⟩ := h
  rw [e] at h1 h2
  have hlen : ∀ i, (va_pl L f ++ va_pl [q] (va_up f q x))[(va_pl L f).length + i]? = (va_pl [q] (va_up f q x))[i]? := fun i => by rw [List.getElem?_append_right (by omega), Nat.add_sub_cancel_left]
  have hlft : ∀ (i : Nat) (z : Nat × va_E), (va_pl L f)[i]? = some z → (va_pl L f ++ va_pl [q] (va_up f q x))[i]? = some z := fun i z hz => by rw [List.getElem?_append_left (List.getElem?_eq_some_iff.mp hz).1]; exact hz
  refine ⟨⟨fun i z hz => h1 ((va_pl L f).length + i) z (by rw [hlen]; exact hz), ⟨fun i j a b ha hb hab => ?_, fun i z hz => h2.2 ((va_pl L f).length + i) z (by rw [hlen]; exact hz)⟩, h3⟩, fun i z hz => h1 i z (hlft i z hz), ⟨fun i j a b ha hb hab => h2.1 i j a b (hlft i a ha) (hlft j b hb) hab, fun i z hz => h2.2 i z (hlft i z hz)⟩, fun a ha hb => ?_⟩
  · have := h2.1 ((va_pl L f).length + i) ((va_pl L f).length + j) a b (by rw [hlen]; exact ha) (by rw [hlen]; exact hb) hab
    omega
  · rcases List.mem_cons.mp hb with e2 | e2
    · exact hq (e2 ▸ ha)
    · cases e2
section GL
variable {p : Program} {l : Launch} {e : Env} {R : Room} {s : State} {m : MethodId} {args : Array Value} {below : List Frame} {meth : Method} {c : Code} {H H0 : Heap} {locs : List Loc} {cells slots : Nat} {Q : State → Prop}
variable {E : gE} {cc : ByteArray} {nl : Nat} {own : String} {A : Nat → Prop} {L K : List Nat} {f k : gF} {pc : Nat} {ls : Array Slot} {rest : List Value} {a : Nat}
theorem g_calliG {mc ms : Nat} {st0 : List Value} {av : Array Value} {post : Int32 → List Nat → gF → Prop} (hG : gG E A L f K k H0 H locs) (hA : ∀ q, H0.size ≤ q → A q) (hr : va_Run p l e R s m args below meth c H locs cells slots mc ms (F0 m pc ls st0) rest (gQi E (gA L f H.size) post av) (gA L f H.size))
    (kk : ∀ (r : Int32) (L1 : List Nat) (f1 : gF) (H1 : Heap) (locs1 : List Loc), post r L1 f1 → gG E A L1 f1 K k H0 H1 locs1 → W p l e R s m args below meth c H1 locs1 (cells + mc) (slots + ms) Q (F0 m (pc + 3) ls (.int r :: rest))) : W p l e R s m args below meth c H locs cells slots Q (F0 m pc ls st0) := by
  have hF := g_free hG.1 hA
  refine va_calli hr hG.1.2.2 (fun q _ h => hF q h) hF (fun r u t H1 locs1 ht hvm hw hB hz1 hk1 hS => ?_)
  obtain ⟨hP1, hD1⟩ := hB
  rw [ht] at hP1
  exact kk r u.1 u.2 H1 locs1 hw (hG.frame hF hP1 hD1 hk1 hS)
theorem g_callvG {mc ms : Nat} {st0 : List Value} {av : Array Value} {post : List Nat → gF → Prop} (hG : gG E A L f K k H0 H locs) (hA : ∀ q, H0.size ≤ q → A q) (hr : va_Run p l e R s m args below meth c H locs cells slots mc ms (F0 m pc ls st0) rest (gQv E (gA L f H.size) post av) (gA L f H.size))
    (kk : ∀ (L1 : List Nat) (f1 : gF) (H1 : Heap) (locs1 : List Loc), post L1 f1 → gG E A L1 f1 K k H0 H1 locs1 → W p l e R s m args below meth c H1 locs1 (cells + mc) (slots + ms) Q (F0 m (pc + 3) ls rest)) : W p l e R s m args below meth c H locs cells slots Q (F0 m pc ls st0) := by
  have hF := g_free hG.1 hA
  refine va_callv hr hG.1.2.2 (fun q _ h => hF q h) hF (fun u t H1 locs1 ht hvm hw hB hz1 hk1 hS => ?_)
  obtain ⟨hP1, hD1⟩ := hB
  rw [ht] at hP1
  exact kk u.1 u.2 H1 locs1 hw (hG.frame hF hP1 hD1 hk1 hS)
theorem g_ViG (C : gC E cc nl own p s m args meth c) (hls : ls.size = nl) (hA : ∀ q, H0.size ≤ q → A q) (hG : gG E A L f K k H0 H locs) {Cn : String} {y : MethodName} {bytes : ByteArray} {maxL n index ci N : Nat} {ret : FieldType} {rm : Room} {b : Nat} {As st0 fs : List Value} {T : u_T} {post : Int32 → List Nat → gF → Prop} (M : gMi l E y bytes maxL ret rm (.ref b :: As) L f post) (wy : gWV Cn y bytes maxL (some ret) n) (hl : Cond.methodLink own index y ∈ gW) (hb : b ∈ L) (hfb : f b = .inr (ci, fs)) (hc : vwCl[ci]? = some (Cn, T, N)) (hn : As.length = n) (hst : st0 = As.reverse ++ .ref b :: rest) (hw : (rest.map fun v => v.category).sum ≤ 8) (hR : rm.frames + 1 ≤ R.frames ∧ 8 + (maxL + 11) + rm.locals ≤ R.locals) (hcs : cells + rm.cells ≤ R.cells ∧ slots + rm.slots ≤ R.slots) (hdg : decode cc pc = .ok (.invokevirtual index, 3))
    (kk : ∀ (r : Int32) (L1 : List Nat) (f1 : gF) (H1 : Heap) (locs1 : List Loc), post r L1 f1 → gG E A L1 f1 K k H0 H1 locs1 → W p l e R s m args below meth c H1 locs1 (cells + rm.cells) (slots + rm.slots) Q (F0 m (pc + 3) ls (.int r :: rest))) : W p l e R s m args below meth c H locs cells slots Q (F0 m pc ls st0) := by
  refine g_calliG hG hA (va_runV (As := As) (b := b) (rest := rest) ⟨C.1, C.2.1, C.2.2.1, C.2.2.2.1, C.2.2.2.2.1⟩ (M H.size) (g_cwV C.2.2.2.2.1 wy hl hR) ⟨g_blind, g_recv C hG.1 hb hfb hc, g_pre C hG.1 _⟩ rfl hn hls hst (lv_room hw) hdg hcs) kk
theorem g_IvG (C : gC E cc nl own p s m args meth c) (hls : ls.size = nl) (hA : ∀ q, H0.size ≤ q → A q) (hG : gG E A L f K k H0 H locs) {Cn : String} {y : MethodName} {bytes : ByteArray} {maxL n index : Nat} {rm : Room} {b : Nat} {As st0 : List Value} {post : List Nat → gF → Prop} (M : gMv l E y bytes maxL rm (.ref b :: As) L f post) (wy : gWI Cn y bytes maxL n) (hl : Cond.methodLink own index y ∈ gW) (hn : As.length = n) (hst : st0 = As.reverse ++ .ref b :: rest) (hw : (rest.map fun v => v.category).sum ≤ 8) (hR : rm.frames + 1 ≤ R.frames ∧ 8 + (maxL + 11) + rm.locals ≤ R.locals) (hcs : cells + rm.cells ≤ R.cells ∧ slots + rm.slots ≤ R.slots) (hdg : decode cc pc = .ok (.invokespecial index, 3))
    (kk : ∀ (L1 : List Nat) (f1 : gF) (H1 : Heap) (locs1 : List Loc), post L1 f1 → gG E A L1 f1 K k H0 H1 locs1 → W p l e R s m args below meth c H1 locs1 (cells + rm.cells) (slots + rm.slots) Q (F0 m (pc + 3) ls rest)) : W p l e R s m args below meth c H locs cells slots Q (F0 m pc ls st0) :=
  g_callvG hG hA (va_runI (As := As) (b := b) (rest := rest) ⟨C.1, C.2.1, C.2.2.1, C.2.2.2.1, C.2.2.2.2.1⟩ (M H.size) (cwI n C.2.2.2.2.1 (g_goodC wy.1.2.2) rfl rfl rfl (by rw [wy.2.1.1]; exact C.2.2.2.2.1 _ wy.1.2.1) (C.2.2.2.2.1 _ hl) (C.2.2.2.2.1 _ wy.1.1) wy.2.2 wy.2.1.2 hR) ⟨g_blind, g_pre C hG.1 _⟩ rfl hn hls hst (lv_room hw) hdg hcs) kk
end GL
/-! THE CLAIM OUT OF ONE WALK OF THE LAW'S BODY. Your part is whole_start (and what it stands on); all else here is the same for every law, but numbers. -/
def R_law : String := "GooseSharesLaw"
def lw_P (b : Addr) (xs : List Int32) (args : Array Value) (s : State) : Prop := args = #[.ref b] ∧ s.IntsAt b xs ∧ xs.length ≤ 6 ∧ (Jvm.Cond.and given_1 narrow_1).before args s = true
def lw_Q (_ : Array Value) (s : State) (o : Outcome) (t : State) : Prop := o = .returned (some (.int 1)) ∧ Framed s o t [] 600000 7302249
def lw_Z (below : List Frame) (a : Array Value) (s : State) : State → Prop := fun t => ∃ o, t.status = .running ∧ Ended t below o ∧ lw_Q a s o t
/-- the law's own end, with 1 on the stack, nothing written that was there before, its room as the claim has it -/
theorem lw_ret {p : Program} {l : Launch} {e : Env} {s : State} {m : MethodId} {below : List Frame} {meth : Method} {c : Code} {b : Nat} (hx : p.tables.exec = Jvm.exec) (hb : c.code = code) (hr : meth.sig.returnType = ret) (hlocks : meth.locks = false) {pc : Nat} {H : Heap} {ls : Array Slot} (hdg : decode code pc = .ok (.ireturn, 1)) : W p l e room_1 s m #[Value.ref b] below meth c H [] 600000 7302249 (lw_Z below #[Value.ref b] s) (F0 m pc ls [.int 1]) := by
  intro T hT X
  obtain ⟨fs, hret, hrun, hended, hW, hframe⟩ := X.leave (v := some (.int 1)) (hlocks := hlocks) (fun h => by rw [hr] at h; cases h)
  have hmeth' : T.vm.method? m = some meth := X.method'
  refine ⟨T.setFrames fs, ?_, .returned (some (.int 1)), hrun, hended, rfl, ⟨_, rfl⟩, hW, hframe⟩
  jvm_step X.here [X.here.top, hx, hb, hdg, hmeth', hr, ret, narrow_b1]
  (try refine ⟨rfl, ?_⟩); (try refine ⟨rfl, ?_⟩)
  first | (intro acts; rw [hret _ acts rfl rfl rfl]) | rw [hret _ _ rfl rfl rfl]
  exact Steps.refl _
/-- what holds at the law's entry: the machine, the code, the tables' words (any of lw_tbl by 'hts w (by decide +kernel)'), the script of L ints xs at the cell b, what the Statement gives of the start (any of its parts by flat_of_before) -/
def lw_At (p : Program) (s : State) (m : MethodId) (meth : Method) (c : Code) (b L : Nat) (xs : Nat → Int32) : Prop :=
  p.tables.exec = Jvm.exec ∧ c.code = code ∧ meth.sig.returnType = ret ∧ c.maxLocals = 4 ∧ s.vm.findClass R_law = some m.cls ∧ (∀ w ∈ lw_tbl, w.before #[Value.ref b] s = true) ∧ va_X b L xs s s.heap ∧ b < s.heap.size ∧ meth.locks = false ∧ (Jvm.Cond.and given_1 narrow_1).before #[Value.ref b] s = true
def gLw (E : gE) (p : Program) (s : State) (m : MethodId) (meth : Method) (c : Code) (b n : Nat) (sc : Nat → Int32) : Prop := gC E cL_law 4 RL p s m #[Value.ref b] meth c ∧ meth.sig.returnType = ret ∧ va_X b n sc s s.heap ∧ b < s.heap.size
theorem gNest_in : ∀ q ∈ gNest, Cond.methodLinkNest q.1 q.2.1 q.2.2.1 q.2.2.2 ∈ lw_tbl := by
  exact List.forall_mem_cons.mpr ⟨tm_1 30 (by decide +kernel), List.forall_mem_cons.mpr ⟨tm_1 47 (by decide +kernel), List.forall_mem_cons.mpr ⟨tm_2 77 (by decide +kernel), List.forall_mem_cons.mpr ⟨tm_4 219 (by decide +kernel), List.forall_mem_cons.mpr ⟨tm_5 184 (by decide +kernel), List.forall_mem_cons.mpr ⟨tm_5 71 (by decide +kernel), List.forall_mem_cons.mpr ⟨tm_4 0 (by decide +kernel), List.forall_mem_cons.mpr ⟨tm_5 138 (by decide +kernel), List.forall_mem_cons.mpr ⟨tm_3 106 (by decide +kernel), fun _ h => absurd h List.not_mem_nil⟩⟩⟩⟩⟩⟩⟩⟩⟩
theorem g_start {args : Array Value} {s : State} (hts : ∀ w ∈ lw_tbl, w.before args s = true) : ∃ E : gE, gK E s := by
  have hg : ∀ w ∈ gW, w.before args s = true := fun w h => hts w (List.mem_filter.mp h).1
  obtain ⟨c0, i0, h0⟩ := u_known (n := 4) hg iX0 (hg _ wd214)
  obtain ⟨c1, i1, h1⟩ := u_known (n := 2) hg iX1 (hg _ wd228)
  obtain ⟨c2, i2, h2⟩ := u_known (n := 4) hg iX2 (hg _ wd221)
  obtain ⟨c3, i3, h3⟩ := u_known (n := 20) hg iX3 (hg _ wd192)
  obtain ⟨c4, i4, h4⟩ := u_known (n := 5) hg iX4 (hg _ wd209)
  obtain ⟨c5, i5, h5⟩ := u_known (n := 7) hg iX5 (hg _ wd196)
  obtain ⟨c6, i6, h6⟩ := u_known (n := 3) hg iX6 (hg _ wd235)
  obtain ⟨c7, i7, h7⟩ := u_known (n := 10) hg iX7 (hg _ wd202)
  obtain ⟨c8, i8, h8⟩ := u_known (n := 2) hg iX8 (hg _ wd188)
  obtain ⟨c9, i9, h9⟩ := u_known (n := 11) hg iX9 (hg _ wd381)
  obtain ⟨c10, i10, h10⟩ := u_known (n := 48) hg iX10 (hg _ wd382)
  obtain ⟨a0, k0, m0, f0, g0, j0⟩ := Cond.arrayClass_spec (hg _ wd158)
  obtain ⟨a1, k1, m1, f1, g1, j1⟩ := Cond.arrayClass_spec (hg _ wd156)
  obtain ⟨a2, k2, m2, f2, g2, j2⟩ := Cond.arrayClass_spec (hg _ wd160)
  obtain ⟨a3, k3, m3, f3, g3, j3⟩ := Cond.arrayClass_spec (hg _ wd234)
  obtain ⟨m4, a4, k4, f4, -, g4, j4, n4⟩ := Cond.arrayOver_spec (hts (.arrayOver (.object "GooseShares$Land")) (tm_1 199 (by decide +kernel)))
  obtain ⟨m5, a5, k5, f5, -, g5, j5, n5⟩ := Cond.arrayOver_spec (hts (.arrayOver (.object "GooseShares$Row")) (tm_1 201 (by decide +kernel)))
  refine ⟨(fun q => [c0, c1, c2, c3, c4, c5, c6, c7, c8, c9, c10].getD q c0, fun q => [i0, i1, i2, i3, i4, i5, i6, i7, i8, i9, i10].getD q i0, fun q => [a0, a1, a2, a3, a4, a5].getD q a0), ⟨?_, ?_⟩, ?_, ?_, ?_⟩
  · intro q z hq
    match q, hq with
    | 0, hq => cases hq; exact h0
    | 1, hq => cases hq; exact h1
    | 2, hq => cases hq; exact h2
    | 3, hq => cases hq; exact h3
    | 4, hq => cases hq; exact h4
    | 5, hq => cases hq; exact h5
    | 6, hq => cases hq; exact h6
    | 7, hq => cases hq; exact h7
    | 8, hq => cases hq; exact h8
    | 9, hq => cases hq; exact h9
    | 10, hq => cases hq; exact h10
    | q + 11, hq => simp [vwCl] at hq
  · intro q z hq
    match q, hq with
    | 0, hq => cases hq; exact ⟨fun n z => ⟨(fun k h => by cases h), k0, g0, m0, j0⟩, f0⟩
    | 1, hq => cases hq; exact ⟨fun n z => ⟨(fun k h => by cases h), k1, g1, m1, j1⟩, f1⟩
    | 2, hq => cases hq; exact ⟨fun n z => ⟨(fun k h => by cases h), k2, g2, m2, j2⟩, f2⟩
    | 3, hq => cases hq; exact ⟨fun n z => ⟨(fun k h => by cases h), k3, g3, m3, j3⟩, f3⟩
    | 4, hq => cases hq; exact ⟨fun n z => ⟨(fun k h => by cases h), k4, g4, m4, j4⟩, k4, m4, g4, j4, f4, n4⟩
    | 5, hq => cases hq; exact ⟨fun n z => ⟨(fun k h => by cases h), k5, g5, m5, j5⟩, k5, m5, g5, j5, f5, n5⟩
    | q + 6, hq => simp [gTy] at hq
  · exact fun q hq => va_Nw.of rfl (hts _ (gNest_in q hq))
  · exact va_AO.of (hts (.arrayOver (.object "GooseShares$Land")) (tm_1 199 (by decide +kernel)))
  · exact va_AO.of (hts (.arrayOver (.object "GooseShares$Row")) (tm_1 201 (by decide +kernel)))
set_option maxHeartbeats 4000000 in
set_option maxRecDepth 100000 in
theorem law_out {p : Program} {l : Launch} {e : Env} {s : State} {m : MethodId} {below : List Frame} {meth : Method} {c : Code} {b : Nat} {E : gE} {H : Heap} {locs : List Loc} {cells slots : Nat} {ls : Array Slot} (C : gC E cL_law 4 RL p s m #[Value.ref b] meth c) (hr : meth.sig.returnType = ret) (hS : va_S (fun q : Nat => s.heap.size ≤ q) s.heap H locs) (hc : cells ≤ 600000) (hs : slots ≤ 7302249) : W p l e room_1 s m #[Value.ref b] below meth c H locs cells slots (lw_Z below #[Value.ref b] s) (F0 m 2124 ls []) := by
  have hx := C.1
  have hb := C.2.1
  refine lv_iconst (v := (1 : Int32)) hx hb dL_law_2124 (by decide) ?_
  refine va_forget hS.2.2 ?_
  refine W.widen (k := 600000) (n := 7302249) hc hs ?_
  exact lw_ret hx hb hr C.2.2.2.2.2.2 dL_law_2125
set_option maxHeartbeats 4000000 in
set_option maxRecDepth 100000 in
theorem law_tail {p : Program} {l : Launch} {e : Env} {s : State} {m : MethodId} {below : List Frame} {meth : Method} {c : Code} {b : Nat} {sc : Nat → Int32} {E : gE} {x y : Nat} {H : Heap} {locs : List Loc} {cells slots : Nat} {ls : Array Slot} (Z : gLw E p s m meth c b 6 sc) (hS : va_S (fun q : Nat => s.heap.size ≤ q) s.heap H locs) (hc : cells ≤ 600000) (hs : slots ≤ 7302249) (hl : lv_has ls 4 [(3, .int (0 : Int32)), (2, .ref y), (1, .ref x), (0, .ref b)]) : W p l e room_1 s m #[Value.ref b] below meth c H locs cells slots (lw_Z below #[Value.ref b] s) (F0 m 2118 ls []) := by
  have C := Z.1
  have hx := C.1
  have hb := C.2.1
  have hbA : ¬ (fun q : Nat => s.heap.size ≤ q) b := Nat.not_le.mpr Z.2.2.2
  refine lv_iinc (v := (6 : Int32)) (lv' := [(3, .int (6 : Int32)), (2, .ref y), (1, .ref x), (0, .ref b)]) hx hb dL_law_2118 hl (k := 0) rfl (by decide) (by decide) rfl (fun ls hl => ?_)
  refine lv_goto (tgt := 18) hx hb dL_law_2121 (by decide) ?_
  refine lv_iload_n hx hb dL_law_18 rfl (lv_at hl 0 rfl) ?_
  refine lv_aload_n hx hb dL_law_19 rfl (lv_at hl 3 rfl) ?_
  refine va_slen hx hb Z.2.2.1 Z.2.2.2 hbA hS dL_law_20 ?_
  refine lv_bipush (v := (6 : Int32)) hx hb dL_law_21 (by decide) ?_
  refine lv_isub hx hb dL_law_23 ?_
  refine lv_topi (fun z ez => ?_)
  obtain rfl : z = (0 : Int32) := ez.trans (by decide)
  refine lv_icmp_gt (tgt := 2124) hx hb dL_law_24 (by decide) (fun _ => ?_) (fun h => absurd (by decide) h)
  exact law_out Z.1 Z.2.1 hS hc hs
set_option maxHeartbeats 4000000 in
set_option maxRecDepth 100000 in
theorem law_0 {p : Program} {l : Launch} {e : Env} {s : State} {m : MethodId} {below : List Frame} {meth : Method} {c : Code} {b : Nat} {sc : Nat → Int32} {E : gE} {L K : List Nat} {f k : gF} {x y : Nat} {H : Heap} {locs : List Loc} {cells slots : Nat} {ls : Array Slot} (Z : gLw E p s m meth c b 6 sc) (hG : gG E (fun q : Nat => s.heap.size ≤ q) L f K k s.heap H locs) (hX : gFresh E L f x) (hY : gFreshM E K k y) (hc : cells ≤ 600000) (hs : slots ≤ 7302249) (hl : lv_has ls 4 [(3, .int (0 : Int32)), (2, .ref y), (1, .ref x), (0, .ref b)]) : W p l e room_1 s m #[Value.ref b] below meth c H locs cells slots (lw_Z below #[Value.ref b] s) (F0 m 328 ls []) := by
  have C := Z.1
  have hx := C.1
  have hb := C.2.1
  have hbA : ¬ (fun q : Nat => s.heap.size ≤ q) b := Nat.not_le.mpr Z.2.2.2
  obtain ⟨xt, xn, xr, xi, xw, xs, xl, xc, xh, xf, xm, xb, xd, lf, ll, na, da, wv, iv, mx, fx, mt, ft, mb, fb, mn, fn, mr, fr, md, fd, ml, fl, mw, fw, mi, fi, mm, fm, gn, gd, hnd, wr, im⟩ := hX
  obtain ⟨ya, wc, my, fy, am_width, af_width, am_many, af_many, am_cells, af_cells, am_tape, af_tape, am_lines, af_lines, am_has, af_has, am_flight, af_flight, am_member, af_member, am_act, af_act, am_isKept, af_isKept, hw⟩ := hY
  refine lv_aload_n hx hb dL_law_328 rfl (lv_at hl 2 rfl) ?_
  refine lv_aload_n hx hb dL_law_329 rfl (lv_at hl 3 rfl) ?_
  refine lv_iload_n hx hb dL_law_330 rfl (lv_at hl 0 rfl) ?_
  refine lv_iconst (v := (1 : Int32)) hx hb dL_law_331 (by decide) ?_
  refine lv_iadd hx hb dL_law_332 ?_
  refine lv_topi (fun z1 ez1 => ?_)
  obtain rfl : z1 = (1 : Int32) := ez1.trans (by decide)
  refine va_sld hx hb Z.2.2.1 Z.2.2.2 hbA hG.1.2.2 (vp_inL (by decide)) dL_law_333 ?_
  refine lv_topi (fun z2 ez2 => ?_)
  obtain rfl : z2 = sc 1 := ez2.trans (congrArg sc (by decide))
  refine lv_aload_n hx hb dL_law_334 rfl (lv_at hl 3 rfl) ?_
  refine lv_iload_n hx hb dL_law_335 rfl (lv_at hl 0 rfl) ?_
  refine lv_iconst (v := (2 : Int32)) hx hb dL_law_336 (by decide) ?_
  refine lv_iadd hx hb dL_law_337 ?_
  refine lv_topi (fun z3 ez3 => ?_)
  obtain rfl : z3 = (2 : Int32) := ez3.trans (by decide)
  refine va_sld hx hb Z.2.2.1 Z.2.2.2 hbA hG.1.2.2 (vp_inL (by decide)) dL_law_338 ?_
  refine lv_topi (fun z4 ez4 => ?_)
  obtain rfl : z4 = sc 2 := ez4.trans (congrArg sc (by decide))
  refine lv_aload_n hx hb dL_law_339 rfl (lv_at hl 3 rfl) ?_
  refine lv_iload_n hx hb dL_law_340 rfl (lv_at hl 0 rfl) ?_
  refine lv_iconst (v := (3 : Int32)) hx hb dL_law_341 (by decide) ?_
  refine lv_iadd hx hb dL_law_342 ?_
  refine lv_topi (fun z5 ez5 => ?_)
  obtain rfl : z5 = (3 : Int32) := ez5.trans (by decide)
  refine va_sld hx hb Z.2.2.1 Z.2.2.2 hbA hG.1.2.2 (vp_inL (by decide)) dL_law_343 ?_
  refine lv_topi (fun z6 ez6 => ?_)
  obtain rfl : z6 = sc 3 := ez6.trans (congrArg sc (by decide))
  refine lv_aload_n hx hb dL_law_344 rfl (lv_at hl 3 rfl) ?_
  refine lv_iload_n hx hb dL_law_345 rfl (lv_at hl 0 rfl) ?_
  refine lv_iconst (v := (4 : Int32)) hx hb dL_law_346 (by decide) ?_
  refine lv_iadd hx hb dL_law_347 ?_
  refine lv_topi (fun z7 ez7 => ?_)
  obtain rfl : z7 = (4 : Int32) := ez7.trans (by decide)
  refine va_sld hx hb Z.2.2.1 Z.2.2.2 hbA hG.1.2.2 (vp_inL (by decide)) dL_law_348 ?_
  refine lv_topi (fun z8 ez8 => ?_)
  obtain rfl : z8 = sc 4 := ez8.trans (congrArg sc (by decide))
  refine lv_aload_n hx hb dL_law_349 rfl (lv_at hl 3 rfl) ?_
  refine lv_iload_n hx hb dL_law_350 rfl (lv_at hl 0 rfl) ?_
  refine lv_iconst (v := (5 : Int32)) hx hb dL_law_351 (by decide) ?_
  refine lv_iadd hx hb dL_law_352 ?_
  refine lv_topi (fun z9 ez9 => ?_)
  obtain rfl : z9 = (5 : Int32) := ez9.trans (by decide)
  refine va_sld hx hb Z.2.2.1 Z.2.2.2 hbA hG.1.2.2 (vp_inL (by decide)) dL_law_353 ?_
  refine lv_topi (fun z10 ez10 => ?_)
  obtain rfl : z10 = sc 5 := ez10.trans (congrArg sc (by decide))
  refine g_ViG C hl.1 (fun _ h => h) hG (As := [.int (sc 1), .int (sc 2), .int (sc 3), .int (sc 4), .int (sc 5)]) (rest := []) (k_feed l E L f mx fx mt ft mb fb (sc 1) (sc 2) (sc 3) (sc 4) (sc 5)) my_X9_feed wd386 mx fx rfl rfl rfl (Nat.le_of_ble_eq_true rfl) ⟨Nat.le_of_ble_eq_true rfl, Nat.le_of_ble_eq_true rfl⟩ ⟨hc, hs⟩ dL_law_354 (fun r1 L1 f1 H locs hp1 hG => ?_)
  have hG := hG.swap
  refine lv_aload_n hx hb dL_law_357 rfl (lv_at hl 1 rfl) ?_
  refine lv_aload_n hx hb dL_law_358 rfl (lv_at hl 3 rfl) ?_
  refine lv_iload_n hx hb dL_law_359 rfl (lv_at hl 0 rfl) ?_
  refine lv_iconst (v := (1 : Int32)) hx hb dL_law_360 (by decide) ?_
  refine lv_iadd hx hb dL_law_361 ?_
  refine lv_topi (fun z11 ez11 => ?_)
  obtain rfl : z11 = (1 : Int32) := ez11.trans (by decide)
  refine va_sld hx hb Z.2.2.1 Z.2.2.2 hbA hG.1.2.2 (vp_inL (by decide)) dL_law_362 ?_
  refine lv_topi (fun z12 ez12 => ?_)
  obtain rfl : z12 = sc 1 := ez12.trans (congrArg sc (by decide))
  refine lv_aload_n hx hb dL_law_363 rfl (lv_at hl 3 rfl) ?_
  refine lv_iload_n hx hb dL_law_364 rfl (lv_at hl 0 rfl) ?_
  refine lv_iconst (v := (2 : Int32)) hx hb dL_law_365 (by decide) ?_
  refine lv_iadd hx hb dL_law_366 ?_
  refine lv_topi (fun z13 ez13 => ?_)
  obtain rfl : z13 = (2 : Int32) := ez13.trans (by decide)
  refine va_sld hx hb Z.2.2.1 Z.2.2.2 hbA hG.1.2.2 (vp_inL (by decide)) dL_law_367 ?_
  refine lv_topi (fun z14 ez14 => ?_)
  obtain rfl : z14 = sc 2 := ez14.trans (congrArg sc (by decide))
  refine lv_aload_n hx hb dL_law_368 rfl (lv_at hl 3 rfl) ?_
  refine lv_iload_n hx hb dL_law_369 rfl (lv_at hl 0 rfl) ?_
  refine lv_iconst (v := (3 : Int32)) hx hb dL_law_370 (by decide) ?_
  refine lv_iadd hx hb dL_law_371 ?_
  refine lv_topi (fun z15 ez15 => ?_)
  obtain rfl : z15 = (3 : Int32) := ez15.trans (by decide)
  refine va_sld hx hb Z.2.2.1 Z.2.2.2 hbA hG.1.2.2 (vp_inL (by decide)) dL_law_372 ?_
  refine lv_topi (fun z16 ez16 => ?_)
  obtain rfl : z16 = sc 3 := ez16.trans (congrArg sc (by decide))
  refine lv_aload_n hx hb dL_law_373 rfl (lv_at hl 3 rfl) ?_
  refine lv_iload_n hx hb dL_law_374 rfl (lv_at hl 0 rfl) ?_
  refine lv_iconst (v := (4 : Int32)) hx hb dL_law_375 (by decide) ?_
  refine lv_iadd hx hb dL_law_376 ?_
  refine lv_topi (fun z17 ez17 => ?_)
  obtain rfl : z17 = (4 : Int32) := ez17.trans (by decide)
  refine va_sld hx hb Z.2.2.1 Z.2.2.2 hbA hG.1.2.2 (vp_inL (by decide)) dL_law_377 ?_
  refine lv_topi (fun z18 ez18 => ?_)
  obtain rfl : z18 = sc 4 := ez18.trans (congrArg sc (by decide))
  refine lv_aload_n hx hb dL_law_378 rfl (lv_at hl 3 rfl) ?_
  refine lv_iload_n hx hb dL_law_379 rfl (lv_at hl 0 rfl) ?_
  refine lv_iconst (v := (5 : Int32)) hx hb dL_law_380 (by decide) ?_
  refine lv_iadd hx hb dL_law_381 ?_
  refine lv_topi (fun z19 ez19 => ?_)
  obtain rfl : z19 = (5 : Int32) := ez19.trans (by decide)
  refine va_sld hx hb Z.2.2.1 Z.2.2.2 hbA hG.1.2.2 (vp_inL (by decide)) dL_law_382 ?_
  refine lv_topi (fun z20 ez20 => ?_)
  obtain rfl : z20 = sc 5 := ez20.trans (congrArg sc (by decide))
  refine g_ViG C hl.1 (fun _ h => h) hG (As := [.int (sc 1), .int (sc 2), .int (sc 3), .int (sc 4), .int (sc 5)]) (rest := [.int r1]) (m_feed l E K k my fy am_tape af_tape (sc 1) (sc 2) (sc 3) (sc 4) (sc 5)) my_X10_feed wd390 my fy rfl rfl rfl (Nat.le_of_ble_eq_true rfl) ⟨Nat.le_of_ble_eq_true rfl, Nat.le_of_ble_eq_true rfl⟩ ⟨hc, hs⟩ dL_law_383 (fun r2 K1 k1 H locs hp2 hG => ?_)
  have hG := hG.swap
  refine lv_icmp_eq (tgt := 2118) hx hb dL_law_386 (by decide) (fun _ => ?_) (fun h => absurd (hp1.trans hp2.symm) h)
  exact law_tail Z hG.1.2.2 hc hs hl
set_option maxHeartbeats 4000000 in
set_option maxRecDepth 100000 in
theorem law_1 {p : Program} {l : Launch} {e : Env} {s : State} {m : MethodId} {below : List Frame} {meth : Method} {c : Code} {b : Nat} {sc : Nat → Int32} {E : gE} {L K : List Nat} {f k : gF} {x y : Nat} {H : Heap} {locs : List Loc} {cells slots : Nat} {ls : Array Slot} (Z : gLw E p s m meth c b 6 sc) (hG : gG E (fun q : Nat => s.heap.size ≤ q) L f K k s.heap H locs) (hX : gFresh E L f x) (hY : gFreshM E K k y) (hc : cells ≤ 600000) (hs : slots ≤ 7302249) (hl : lv_has ls 4 [(3, .int (0 : Int32)), (2, .ref y), (1, .ref x), (0, .ref b)]) : W p l e room_1 s m #[Value.ref b] below meth c H locs cells slots (lw_Z below #[Value.ref b] s) (F0 m 391 ls []) := by
  have C := Z.1
  have hx := C.1
  have hb := C.2.1
  have hbA : ¬ (fun q : Nat => s.heap.size ≤ q) b := Nat.not_le.mpr Z.2.2.2
  obtain ⟨xt, xn, xr, xi, xw, xs, xl, xc, xh, xf, xm, xb, xd, lf, ll, na, da, wv, iv, mx, fx, mt, ft, mb, fb, mn, fn, mr, fr, md, fd, ml, fl, mw, fw, mi, fi, mm, fm, gn, gd, hnd, wr, im⟩ := hX
  obtain ⟨ya, wc, my, fy, am_width, af_width, am_many, af_many, am_cells, af_cells, am_tape, af_tape, am_lines, af_lines, am_has, af_has, am_flight, af_flight, am_member, af_member, am_act, af_act, am_isKept, af_isKept, hw⟩ := hY
  refine lv_aload_n hx hb dL_law_391 rfl (lv_at hl 2 rfl) ?_
  refine lv_aload_n hx hb dL_law_392 rfl (lv_at hl 3 rfl) ?_
  refine lv_iload_n hx hb dL_law_393 rfl (lv_at hl 0 rfl) ?_
  refine lv_iconst (v := (1 : Int32)) hx hb dL_law_394 (by decide) ?_
  refine lv_iadd hx hb dL_law_395 ?_
  refine lv_topi (fun z1 ez1 => ?_)
  obtain rfl : z1 = (1 : Int32) := ez1.trans (by decide)
  refine va_sld hx hb Z.2.2.1 Z.2.2.2 hbA hG.1.2.2 (vp_inL (by decide)) dL_law_396 ?_
  refine lv_topi (fun z2 ez2 => ?_)
  obtain rfl : z2 = sc 1 := ez2.trans (congrArg sc (by decide))
  refine g_ViG C hl.1 (fun _ h => h) hG (As := [.int (sc 1)]) (rest := []) (k_end l E L f mx fx mt ft mb fb (sc 1)) my_X9_end wd394 mx fx rfl rfl rfl (Nat.le_of_ble_eq_true rfl) ⟨Nat.le_of_ble_eq_true rfl, Nat.le_of_ble_eq_true rfl⟩ ⟨hc, hs⟩ dL_law_397 (fun r1 L1 f1 H locs hp1 hG => ?_)
  have hG := hG.swap
  refine lv_aload_n hx hb dL_law_400 rfl (lv_at hl 1 rfl) ?_
  refine lv_aload_n hx hb dL_law_401 rfl (lv_at hl 3 rfl) ?_
  refine lv_iload_n hx hb dL_law_402 rfl (lv_at hl 0 rfl) ?_
  refine lv_iconst (v := (1 : Int32)) hx hb dL_law_403 (by decide) ?_
  refine lv_iadd hx hb dL_law_404 ?_
  refine lv_topi (fun z3 ez3 => ?_)
  obtain rfl : z3 = (1 : Int32) := ez3.trans (by decide)
  refine va_sld hx hb Z.2.2.1 Z.2.2.2 hbA hG.1.2.2 (vp_inL (by decide)) dL_law_405 ?_
  refine lv_topi (fun z4 ez4 => ?_)
  obtain rfl : z4 = sc 1 := ez4.trans (congrArg sc (by decide))
  refine g_ViG C hl.1 (fun _ h => h) hG (As := [.int (sc 1)]) (rest := [.int r1]) (m_end l E K k my fy  (sc 1)) my_X10_end wd398 my fy rfl rfl rfl (Nat.le_of_ble_eq_true rfl) ⟨Nat.le_of_ble_eq_true rfl, Nat.le_of_ble_eq_true rfl⟩ ⟨hc, hs⟩ dL_law_406 (fun r2 K1 k1 H locs hp2 hG => ?_)
  have hG := hG.swap
  refine lv_icmp_eq (tgt := 2118) hx hb dL_law_409 (by decide) (fun _ => ?_) (fun h => absurd (hp1.trans hp2.symm) h)
  exact law_tail Z hG.1.2.2 hc hs hl
set_option maxHeartbeats 4000000 in
set_option maxRecDepth 100000 in
theorem law_2 {p : Program} {l : Launch} {e : Env} {s : State} {m : MethodId} {below : List Frame} {meth : Method} {c : Code} {b : Nat} {sc : Nat → Int32} {E : gE} {L K : List Nat} {f k : gF} {x y : Nat} {H : Heap} {locs : List Loc} {cells slots : Nat} {ls : Array Slot} (Z : gLw E p s m meth c b 6 sc) (hG : gG E (fun q : Nat => s.heap.size ≤ q) L f K k s.heap H locs) (hX : gFresh E L f x) (hY : gFreshM E K k y) (hc : cells ≤ 600000) (hs : slots ≤ 7302249) (hl : lv_has ls 4 [(3, .int (0 : Int32)), (2, .ref y), (1, .ref x), (0, .ref b)]) : W p l e room_1 s m #[Value.ref b] below meth c H locs cells slots (lw_Z below #[Value.ref b] s) (F0 m 414 ls []) := by
  have C := Z.1
  have hx := C.1
  have hb := C.2.1
  have hbA : ¬ (fun q : Nat => s.heap.size ≤ q) b := Nat.not_le.mpr Z.2.2.2
  obtain ⟨xt, xn, xr, xi, xw, xs, xl, xc, xh, xf, xm, xb, xd, lf, ll, na, da, wv, iv, mx, fx, mt, ft, mb, fb, mn, fn, mr, fr, md, fd, ml, fl, mw, fw, mi, fi, mm, fm, gn, gd, hnd, wr, im⟩ := hX
  obtain ⟨ya, wc, my, fy, am_width, af_width, am_many, af_many, am_cells, af_cells, am_tape, af_tape, am_lines, af_lines, am_has, af_has, am_flight, af_flight, am_member, af_member, am_act, af_act, am_isKept, af_isKept, hw⟩ := hY
  refine lv_aload_n hx hb dL_law_414 rfl (lv_at hl 2 rfl) ?_
  refine g_ViG C hl.1 (fun _ h => h) hG (As := []) (rest := []) (k_land l E L f mx fx mt ft mr fr md fd mn fn ml fl gn gd hnd) my_X9_land wd402 mx fx rfl rfl rfl (Nat.le_of_ble_eq_true rfl) ⟨Nat.le_of_ble_eq_true rfl, Nat.le_of_ble_eq_true rfl⟩ ⟨hc, hs⟩ dL_law_415 (fun r1 L1 f1 H locs hp1 hG => ?_)
  have hG := hG.swap
  refine lv_aload_n hx hb dL_law_418 rfl (lv_at hl 1 rfl) ?_
  refine g_ViG C hl.1 (fun _ h => h) hG (As := []) (rest := [.int r1]) (m_land l E K k my fy am_lines af_lines am_has af_has am_flight af_flight am_member af_member am_act af_act (fun _ => rfl) (fun _ => rfl) (fun _ => rfl) (fun _ => rfl) (fun _ => rfl)) my_X10_land wd406 my fy rfl rfl rfl (Nat.le_of_ble_eq_true rfl) ⟨Nat.le_of_ble_eq_true rfl, Nat.le_of_ble_eq_true rfl⟩ ⟨hc, hs⟩ dL_law_419 (fun r2 K1 k1 H locs hp2 hG => ?_)
  have hG := hG.swap
  refine lv_icmp_eq (tgt := 2118) hx hb dL_law_422 (by decide) (fun _ => ?_) (fun h => absurd (hp1.trans hp2.symm) h)
  exact law_tail Z hG.1.2.2 hc hs hl
set_option maxHeartbeats 4000000 in
set_option maxRecDepth 100000 in
theorem law_3 {p : Program} {l : Launch} {e : Env} {s : State} {m : MethodId} {below : List Frame} {meth : Method} {c : Code} {b : Nat} {sc : Nat → Int32} {E : gE} {L K : List Nat} {f k : gF} {x y : Nat} {H : Heap} {locs : List Loc} {cells slots : Nat} {ls : Array Slot} (Z : gLw E p s m meth c b 6 sc) (hG : gG E (fun q : Nat => s.heap.size ≤ q) L f K k s.heap H locs) (hX : gFresh E L f x) (hY : gFreshM E K k y) (hc : cells ≤ 600000) (hs : slots ≤ 7302249) (hl : lv_has ls 4 [(3, .int (0 : Int32)), (2, .ref y), (1, .ref x), (0, .ref b)]) : W p l e room_1 s m #[Value.ref b] below meth c H locs cells slots (lw_Z below #[Value.ref b] s) (F0 m 427 ls []) := by
  have C := Z.1
  have hx := C.1
  have hb := C.2.1
  have hbA : ¬ (fun q : Nat => s.heap.size ≤ q) b := Nat.not_le.mpr Z.2.2.2
  obtain ⟨xt, xn, xr, xi, xw, xs, xl, xc, xh, xf, xm, xb, xd, lf, ll, na, da, wv, iv, mx, fx, mt, ft, mb, fb, mn, fn, mr, fr, md, fd, ml, fl, mw, fw, mi, fi, mm, fm, gn, gd, hnd, wr, im⟩ := hX
  obtain ⟨ya, wc, my, fy, am_width, af_width, am_many, af_many, am_cells, af_cells, am_tape, af_tape, am_lines, af_lines, am_has, af_has, am_flight, af_flight, am_member, af_member, am_act, af_act, am_isKept, af_isKept, hw⟩ := hY
  refine lv_aload_n hx hb dL_law_427 rfl (lv_at hl 2 rfl) ?_
  refine lv_aload_n hx hb dL_law_428 rfl (lv_at hl 3 rfl) ?_
  refine lv_iload_n hx hb dL_law_429 rfl (lv_at hl 0 rfl) ?_
  refine lv_iconst (v := (1 : Int32)) hx hb dL_law_430 (by decide) ?_
  refine lv_iadd hx hb dL_law_431 ?_
  refine lv_topi (fun z1 ez1 => ?_)
  obtain rfl : z1 = (1 : Int32) := ez1.trans (by decide)
  refine va_sld hx hb Z.2.2.1 Z.2.2.2 hbA hG.1.2.2 (vp_inL (by decide)) dL_law_432 ?_
  refine lv_topi (fun z2 ez2 => ?_)
  obtain rfl : z2 = sc 1 := ez2.trans (congrArg sc (by decide))
  refine g_ViG C hl.1 (fun _ h => h) hG (As := [.int (sc 1)]) (rest := []) (k_fault l E L f mx fx mr fr (sc 1)) my_X9_fault wd410 mx fx rfl rfl rfl (Nat.le_of_ble_eq_true rfl) ⟨Nat.le_of_ble_eq_true rfl, Nat.le_of_ble_eq_true rfl⟩ ⟨hc, hs⟩ dL_law_433 (fun r1 L1 f1 H locs hp1 hG => ?_)
  have hG := hG.swap
  refine lv_aload_n hx hb dL_law_436 rfl (lv_at hl 1 rfl) ?_
  refine lv_aload_n hx hb dL_law_437 rfl (lv_at hl 3 rfl) ?_
  refine lv_iload_n hx hb dL_law_438 rfl (lv_at hl 0 rfl) ?_
  refine lv_iconst (v := (1 : Int32)) hx hb dL_law_439 (by decide) ?_
  refine lv_iadd hx hb dL_law_440 ?_
  refine lv_topi (fun z3 ez3 => ?_)
  obtain rfl : z3 = (1 : Int32) := ez3.trans (by decide)
  refine va_sld hx hb Z.2.2.1 Z.2.2.2 hbA hG.1.2.2 (vp_inL (by decide)) dL_law_441 ?_
  refine lv_topi (fun z4 ez4 => ?_)
  obtain rfl : z4 = sc 1 := ez4.trans (congrArg sc (by decide))
  refine g_ViG C hl.1 (fun _ h => h) hG (As := [.int (sc 1)]) (rest := [.int r1]) (m_fault l E K k my fy  (sc 1)) my_X10_fault wd414 my fy rfl rfl rfl (Nat.le_of_ble_eq_true rfl) ⟨Nat.le_of_ble_eq_true rfl, Nat.le_of_ble_eq_true rfl⟩ ⟨hc, hs⟩ dL_law_442 (fun r2 K1 k1 H locs hp2 hG => ?_)
  have hG := hG.swap
  refine lv_icmp_eq (tgt := 2118) hx hb dL_law_445 (by decide) (fun _ => ?_) (fun h => absurd (hp1.trans hp2.symm) h)
  exact law_tail Z hG.1.2.2 hc hs hl
set_option maxHeartbeats 4000000 in
set_option maxRecDepth 100000 in
theorem law_4 {p : Program} {l : Launch} {e : Env} {s : State} {m : MethodId} {below : List Frame} {meth : Method} {c : Code} {b : Nat} {sc : Nat → Int32} {E : gE} {L K : List Nat} {f k : gF} {x y : Nat} {H : Heap} {locs : List Loc} {cells slots : Nat} {ls : Array Slot} (Z : gLw E p s m meth c b 6 sc) (hG : gG E (fun q : Nat => s.heap.size ≤ q) L f K k s.heap H locs) (hX : gFresh E L f x) (hY : gFreshM E K k y) (hc : cells ≤ 600000) (hs : slots ≤ 7302249) (hl : lv_has ls 4 [(3, .int (0 : Int32)), (2, .ref y), (1, .ref x), (0, .ref b)]) : W p l e room_1 s m #[Value.ref b] below meth c H locs cells slots (lw_Z below #[Value.ref b] s) (F0 m 450 ls []) := by
  have C := Z.1
  have hx := C.1
  have hb := C.2.1
  have hbA : ¬ (fun q : Nat => s.heap.size ≤ q) b := Nat.not_le.mpr Z.2.2.2
  obtain ⟨xt, xn, xr, xi, xw, xs, xl, xc, xh, xf, xm, xb, xd, lf, ll, na, da, wv, iv, mx, fx, mt, ft, mb, fb, mn, fn, mr, fr, md, fd, ml, fl, mw, fw, mi, fi, mm, fm, gn, gd, hnd, wr, im⟩ := hX
  obtain ⟨ya, wc, my, fy, am_width, af_width, am_many, af_many, am_cells, af_cells, am_tape, af_tape, am_lines, af_lines, am_has, af_has, am_flight, af_flight, am_member, af_member, am_act, af_act, am_isKept, af_isKept, hw⟩ := hY
  refine lv_aload_n hx hb dL_law_450 rfl (lv_at hl 2 rfl) ?_
  refine lv_aload_n hx hb dL_law_451 rfl (lv_at hl 3 rfl) ?_
  refine lv_iload_n hx hb dL_law_452 rfl (lv_at hl 0 rfl) ?_
  refine lv_iconst (v := (1 : Int32)) hx hb dL_law_453 (by decide) ?_
  refine lv_iadd hx hb dL_law_454 ?_
  refine lv_topi (fun z1 ez1 => ?_)
  obtain rfl : z1 = (1 : Int32) := ez1.trans (by decide)
  refine va_sld hx hb Z.2.2.1 Z.2.2.2 hbA hG.1.2.2 (vp_inL (by decide)) dL_law_455 ?_
  refine lv_topi (fun z2 ez2 => ?_)
  obtain rfl : z2 = sc 1 := ez2.trans (congrArg sc (by decide))
  refine lv_aload_n hx hb dL_law_456 rfl (lv_at hl 3 rfl) ?_
  refine lv_iload_n hx hb dL_law_457 rfl (lv_at hl 0 rfl) ?_
  refine lv_iconst (v := (2 : Int32)) hx hb dL_law_458 (by decide) ?_
  refine lv_iadd hx hb dL_law_459 ?_
  refine lv_topi (fun z3 ez3 => ?_)
  obtain rfl : z3 = (2 : Int32) := ez3.trans (by decide)
  refine va_sld hx hb Z.2.2.1 Z.2.2.2 hbA hG.1.2.2 (vp_inL (by decide)) dL_law_460 ?_
  refine lv_topi (fun z4 ez4 => ?_)
  obtain rfl : z4 = sc 2 := ez4.trans (congrArg sc (by decide))
  refine g_ViG C hl.1 (fun _ h => h) hG (As := [.int (sc 1), .int (sc 2)]) (rest := []) (k_flight l E L f mx fx mn fn (sc 1) (sc 2)) my_X9_flight wd418 mx fx rfl rfl rfl (Nat.le_of_ble_eq_true rfl) ⟨Nat.le_of_ble_eq_true rfl, Nat.le_of_ble_eq_true rfl⟩ ⟨hc, hs⟩ dL_law_461 (fun r1 L1 f1 H locs hp1 hG => ?_)
  have hG := hG.swap
  refine lv_aload_n hx hb dL_law_464 rfl (lv_at hl 1 rfl) ?_
  refine lv_aload_n hx hb dL_law_465 rfl (lv_at hl 3 rfl) ?_
  refine lv_iload_n hx hb dL_law_466 rfl (lv_at hl 0 rfl) ?_
  refine lv_iconst (v := (1 : Int32)) hx hb dL_law_467 (by decide) ?_
  refine lv_iadd hx hb dL_law_468 ?_
  refine lv_topi (fun z5 ez5 => ?_)
  obtain rfl : z5 = (1 : Int32) := ez5.trans (by decide)
  refine va_sld hx hb Z.2.2.1 Z.2.2.2 hbA hG.1.2.2 (vp_inL (by decide)) dL_law_469 ?_
  refine lv_topi (fun z6 ez6 => ?_)
  obtain rfl : z6 = sc 1 := ez6.trans (congrArg sc (by decide))
  refine lv_aload_n hx hb dL_law_470 rfl (lv_at hl 3 rfl) ?_
  refine lv_iload_n hx hb dL_law_471 rfl (lv_at hl 0 rfl) ?_
  refine lv_iconst (v := (2 : Int32)) hx hb dL_law_472 (by decide) ?_
  refine lv_iadd hx hb dL_law_473 ?_
  refine lv_topi (fun z7 ez7 => ?_)
  obtain rfl : z7 = (2 : Int32) := ez7.trans (by decide)
  refine va_sld hx hb Z.2.2.1 Z.2.2.2 hbA hG.1.2.2 (vp_inL (by decide)) dL_law_474 ?_
  refine lv_topi (fun z8 ez8 => ?_)
  obtain rfl : z8 = sc 2 := ez8.trans (congrArg sc (by decide))
  refine g_ViG C hl.1 (fun _ h => h) hG (As := [.int (sc 1), .int (sc 2)]) (rest := [.int r1]) (m_flight l E K k my fy am_lines af_lines am_has af_has (sc 1) (sc 2)) my_X10_flight wd422 my fy rfl rfl rfl (Nat.le_of_ble_eq_true rfl) ⟨Nat.le_of_ble_eq_true rfl, Nat.le_of_ble_eq_true rfl⟩ ⟨hc, hs⟩ dL_law_475 (fun r2 K1 k1 H locs hp2 hG => ?_)
  have hG := hG.swap
  refine lv_icmp_eq (tgt := 2118) hx hb dL_law_478 (by decide) (fun _ => ?_) (fun h => absurd (hp1.1.trans hp2.symm) h)
  exact law_tail Z hG.1.2.2 hc hs hl
set_option maxHeartbeats 4000000 in
set_option maxRecDepth 100000 in
theorem law_5 {p : Program} {l : Launch} {e : Env} {s : State} {m : MethodId} {below : List Frame} {meth : Method} {c : Code} {b : Nat} {sc : Nat → Int32} {E : gE} {L K : List Nat} {f k : gF} {x y : Nat} {H : Heap} {locs : List Loc} {cells slots : Nat} {ls : Array Slot} (Z : gLw E p s m meth c b 6 sc) (hG : gG E (fun q : Nat => s.heap.size ≤ q) L f K k s.heap H locs) (hX : gFresh E L f x) (hY : gFreshM E K k y) (hc : cells ≤ 600000) (hs : slots ≤ 7302249) (hl : lv_has ls 4 [(3, .int (0 : Int32)), (2, .ref y), (1, .ref x), (0, .ref b)]) : W p l e room_1 s m #[Value.ref b] below meth c H locs cells slots (lw_Z below #[Value.ref b] s) (F0 m 483 ls []) := by
  have C := Z.1
  have hx := C.1
  have hb := C.2.1
  have hbA : ¬ (fun q : Nat => s.heap.size ≤ q) b := Nat.not_le.mpr Z.2.2.2
  obtain ⟨xt, xn, xr, xi, xw, xs, xl, xc, xh, xf, xm, xb, xd, lf, ll, na, da, wv, iv, mx, fx, mt, ft, mb, fb, mn, fn, mr, fr, md, fd, ml, fl, mw, fw, mi, fi, mm, fm, gn, gd, hnd, wr, im⟩ := hX
  obtain ⟨ya, wc, my, fy, am_width, af_width, am_many, af_many, am_cells, af_cells, am_tape, af_tape, am_lines, af_lines, am_has, af_has, am_flight, af_flight, am_member, af_member, am_act, af_act, am_isKept, af_isKept, hw⟩ := hY
  refine lv_aload_n hx hb dL_law_483 rfl (lv_at hl 2 rfl) ?_
  refine lv_aload_n hx hb dL_law_484 rfl (lv_at hl 3 rfl) ?_
  refine lv_iload_n hx hb dL_law_485 rfl (lv_at hl 0 rfl) ?_
  refine lv_iconst (v := (1 : Int32)) hx hb dL_law_486 (by decide) ?_
  refine lv_iadd hx hb dL_law_487 ?_
  refine lv_topi (fun z1 ez1 => ?_)
  obtain rfl : z1 = (1 : Int32) := ez1.trans (by decide)
  refine va_sld hx hb Z.2.2.1 Z.2.2.2 hbA hG.1.2.2 (vp_inL (by decide)) dL_law_488 ?_
  refine lv_topi (fun z2 ez2 => ?_)
  obtain rfl : z2 = sc 1 := ez2.trans (congrArg sc (by decide))
  refine lv_aload_n hx hb dL_law_489 rfl (lv_at hl 3 rfl) ?_
  refine lv_iload_n hx hb dL_law_490 rfl (lv_at hl 0 rfl) ?_
  refine lv_iconst (v := (2 : Int32)) hx hb dL_law_491 (by decide) ?_
  refine lv_iadd hx hb dL_law_492 ?_
  refine lv_topi (fun z3 ez3 => ?_)
  obtain rfl : z3 = (2 : Int32) := ez3.trans (by decide)
  refine va_sld hx hb Z.2.2.1 Z.2.2.2 hbA hG.1.2.2 (vp_inL (by decide)) dL_law_493 ?_
  refine lv_topi (fun z4 ez4 => ?_)
  obtain rfl : z4 = sc 2 := ez4.trans (congrArg sc (by decide))
  refine g_ViG C hl.1 (fun _ h => h) hG (As := [.int (sc 1), .int (sc 2)]) (rest := []) (k_member l E L f mx fx mn fn (sc 1) (sc 2)) my_X9_member wd426 mx fx rfl rfl rfl (Nat.le_of_ble_eq_true rfl) ⟨Nat.le_of_ble_eq_true rfl, Nat.le_of_ble_eq_true rfl⟩ ⟨hc, hs⟩ dL_law_494 (fun r1 L1 f1 H locs hp1 hG => ?_)
  have hG := hG.swap
  refine lv_aload_n hx hb dL_law_497 rfl (lv_at hl 1 rfl) ?_
  refine lv_aload_n hx hb dL_law_498 rfl (lv_at hl 3 rfl) ?_
  refine lv_iload_n hx hb dL_law_499 rfl (lv_at hl 0 rfl) ?_
  refine lv_iconst (v := (1 : Int32)) hx hb dL_law_500 (by decide) ?_
  refine lv_iadd hx hb dL_law_501 ?_
  refine lv_topi (fun z5 ez5 => ?_)
  obtain rfl : z5 = (1 : Int32) := ez5.trans (by decide)
  refine va_sld hx hb Z.2.2.1 Z.2.2.2 hbA hG.1.2.2 (vp_inL (by decide)) dL_law_502 ?_
  refine lv_topi (fun z6 ez6 => ?_)
  obtain rfl : z6 = sc 1 := ez6.trans (congrArg sc (by decide))
  refine lv_aload_n hx hb dL_law_503 rfl (lv_at hl 3 rfl) ?_
  refine lv_iload_n hx hb dL_law_504 rfl (lv_at hl 0 rfl) ?_
  refine lv_iconst (v := (2 : Int32)) hx hb dL_law_505 (by decide) ?_
  refine lv_iadd hx hb dL_law_506 ?_
  refine lv_topi (fun z7 ez7 => ?_)
  obtain rfl : z7 = (2 : Int32) := ez7.trans (by decide)
  refine va_sld hx hb Z.2.2.1 Z.2.2.2 hbA hG.1.2.2 (vp_inL (by decide)) dL_law_507 ?_
  refine lv_topi (fun z8 ez8 => ?_)
  obtain rfl : z8 = sc 2 := ez8.trans (congrArg sc (by decide))
  refine g_ViG C hl.1 (fun _ h => h) hG (As := [.int (sc 1), .int (sc 2)]) (rest := [.int r1]) (m_member l E K k my fy am_lines af_lines am_has af_has (sc 1) (sc 2)) my_X10_member wd430 my fy rfl rfl rfl (Nat.le_of_ble_eq_true rfl) ⟨Nat.le_of_ble_eq_true rfl, Nat.le_of_ble_eq_true rfl⟩ ⟨hc, hs⟩ dL_law_508 (fun r2 K1 k1 H locs hp2 hG => ?_)
  have hG := hG.swap
  refine lv_icmp_eq (tgt := 2118) hx hb dL_law_511 (by decide) (fun _ => ?_) (fun h => absurd (hp1.1.trans hp2.symm) h)
  exact law_tail Z hG.1.2.2 hc hs hl
set_option maxHeartbeats 4000000 in
set_option maxRecDepth 100000 in
theorem law_6 {p : Program} {l : Launch} {e : Env} {s : State} {m : MethodId} {below : List Frame} {meth : Method} {c : Code} {b : Nat} {sc : Nat → Int32} {E : gE} {L K : List Nat} {f k : gF} {x y : Nat} {H : Heap} {locs : List Loc} {cells slots : Nat} {ls : Array Slot} (Z : gLw E p s m meth c b 6 sc) (hG : gG E (fun q : Nat => s.heap.size ≤ q) L f K k s.heap H locs) (hX : gFresh E L f x) (hY : gFreshM E K k y) (hc : cells ≤ 600000) (hs : slots ≤ 7302249) (hl : lv_has ls 4 [(3, .int (0 : Int32)), (2, .ref y), (1, .ref x), (0, .ref b)]) : W p l e room_1 s m #[Value.ref b] below meth c H locs cells slots (lw_Z below #[Value.ref b] s) (F0 m 516 ls []) := by
  have C := Z.1
  have hx := C.1
  have hb := C.2.1
  have hbA : ¬ (fun q : Nat => s.heap.size ≤ q) b := Nat.not_le.mpr Z.2.2.2
  obtain ⟨xt, xn, xr, xi, xw, xs, xl, xc, xh, xf, xm, xb, xd, lf, ll, na, da, wv, iv, mx, fx, mt, ft, mb, fb, mn, fn, mr, fr, md, fd, ml, fl, mw, fw, mi, fi, mm, fm, gn, gd, hnd, wr, im⟩ := hX
  obtain ⟨ya, wc, my, fy, am_width, af_width, am_many, af_many, am_cells, af_cells, am_tape, af_tape, am_lines, af_lines, am_has, af_has, am_flight, af_flight, am_member, af_member, am_act, af_act, am_isKept, af_isKept, hw⟩ := hY
  refine lv_aload_n hx hb dL_law_516 rfl (lv_at hl 2 rfl) ?_
  refine g_ViG C hl.1 (fun _ h => h) hG (As := []) (rest := []) (k_lamps l E L f mx fx mn fn) my_X9_lamps wd434 mx fx rfl rfl rfl (Nat.le_of_ble_eq_true rfl) ⟨Nat.le_of_ble_eq_true rfl, Nat.le_of_ble_eq_true rfl⟩ ⟨hc, hs⟩ dL_law_517 (fun r1 L1 f1 H locs hp1 hG => ?_)
  have hG := hG.swap
  refine lv_aload_n hx hb dL_law_520 rfl (lv_at hl 1 rfl) ?_
  refine g_ViG C hl.1 (fun _ h => h) hG (As := []) (rest := [.int r1]) (m_lamps l E K k my fy am_lines af_lines am_has af_has) my_X10_lamps wd438 my fy rfl rfl rfl (Nat.le_of_ble_eq_true rfl) ⟨Nat.le_of_ble_eq_true rfl, Nat.le_of_ble_eq_true rfl⟩ ⟨hc, hs⟩ dL_law_521 (fun r2 K1 k1 H locs hp2 hG => ?_)
  have hG := hG.swap
  refine lv_icmp_eq (tgt := 2118) hx hb dL_law_524 (by decide) (fun _ => ?_) (fun h => absurd (hp1.1.trans hp2.symm) h)
  exact law_tail Z hG.1.2.2 hc hs hl
set_option maxHeartbeats 4000000 in
set_option maxRecDepth 100000 in
theorem law_7 {p : Program} {l : Launch} {e : Env} {s : State} {m : MethodId} {below : List Frame} {meth : Method} {c : Code} {b : Nat} {sc : Nat → Int32} {E : gE} {L K : List Nat} {f k : gF} {x y : Nat} {H : Heap} {locs : List Loc} {cells slots : Nat} {ls : Array Slot} (Z : gLw E p s m meth c b 6 sc) (hG : gG E (fun q : Nat => s.heap.size ≤ q) L f K k s.heap H locs) (hX : gFresh E L f x) (hY : gFreshM E K k y) (hc : cells ≤ 600000) (hs : slots ≤ 7302249) (hl : lv_has ls 4 [(3, .int (0 : Int32)), (2, .ref y), (1, .ref x), (0, .ref b)]) : W p l e room_1 s m #[Value.ref b] below meth c H locs cells slots (lw_Z below #[Value.ref b] s) (F0 m 529 ls []) := by
  have C := Z.1
  have hx := C.1
  have hb := C.2.1
  have hbA : ¬ (fun q : Nat => s.heap.size ≤ q) b := Nat.not_le.mpr Z.2.2.2
  obtain ⟨xt, xn, xr, xi, xw, xs, xl, xc, xh, xf, xm, xb, xd, lf, ll, na, da, wv, iv, mx, fx, mt, ft, mb, fb, mn, fn, mr, fr, md, fd, ml, fl, mw, fw, mi, fi, mm, fm, gn, gd, hnd, wr, im⟩ := hX
  obtain ⟨ya, wc, my, fy, am_width, af_width, am_many, af_many, am_cells, af_cells, am_tape, af_tape, am_lines, af_lines, am_has, af_has, am_flight, af_flight, am_member, af_member, am_act, af_act, am_isKept, af_isKept, hw⟩ := hY
  refine lv_aload_n hx hb dL_law_529 rfl (lv_at hl 2 rfl) ?_
  refine lv_aload_n hx hb dL_law_530 rfl (lv_at hl 3 rfl) ?_
  refine lv_iload_n hx hb dL_law_531 rfl (lv_at hl 0 rfl) ?_
  refine lv_iconst (v := (1 : Int32)) hx hb dL_law_532 (by decide) ?_
  refine lv_iadd hx hb dL_law_533 ?_
  refine lv_topi (fun z1 ez1 => ?_)
  obtain rfl : z1 = (1 : Int32) := ez1.trans (by decide)
  refine va_sld hx hb Z.2.2.1 Z.2.2.2 hbA hG.1.2.2 (vp_inL (by decide)) dL_law_534 ?_
  refine lv_topi (fun z2 ez2 => ?_)
  obtain rfl : z2 = sc 1 := ez2.trans (congrArg sc (by decide))
  refine lv_aload_n hx hb dL_law_535 rfl (lv_at hl 3 rfl) ?_
  refine lv_iload_n hx hb dL_law_536 rfl (lv_at hl 0 rfl) ?_
  refine lv_iconst (v := (2 : Int32)) hx hb dL_law_537 (by decide) ?_
  refine lv_iadd hx hb dL_law_538 ?_
  refine lv_topi (fun z3 ez3 => ?_)
  obtain rfl : z3 = (2 : Int32) := ez3.trans (by decide)
  refine va_sld hx hb Z.2.2.1 Z.2.2.2 hbA hG.1.2.2 (vp_inL (by decide)) dL_law_539 ?_
  refine lv_topi (fun z4 ez4 => ?_)
  obtain rfl : z4 = sc 2 := ez4.trans (congrArg sc (by decide))
  refine g_ViG C hl.1 (fun _ h => h) hG (As := [.int (sc 1), .int (sc 2)]) (rest := []) (k_at l E L f mx fx mn fn (sc 1) (sc 2)) my_X9_at wd442 mx fx rfl rfl rfl (Nat.le_of_ble_eq_true rfl) ⟨Nat.le_of_ble_eq_true rfl, Nat.le_of_ble_eq_true rfl⟩ ⟨hc, hs⟩ dL_law_540 (fun r1 L1 f1 H locs hp1 hG => ?_)
  have hG := hG.swap
  refine lv_aload_n hx hb dL_law_543 rfl (lv_at hl 1 rfl) ?_
  refine lv_aload_n hx hb dL_law_544 rfl (lv_at hl 3 rfl) ?_
  refine lv_iload_n hx hb dL_law_545 rfl (lv_at hl 0 rfl) ?_
  refine lv_iconst (v := (1 : Int32)) hx hb dL_law_546 (by decide) ?_
  refine lv_iadd hx hb dL_law_547 ?_
  refine lv_topi (fun z5 ez5 => ?_)
  obtain rfl : z5 = (1 : Int32) := ez5.trans (by decide)
  refine va_sld hx hb Z.2.2.1 Z.2.2.2 hbA hG.1.2.2 (vp_inL (by decide)) dL_law_548 ?_
  refine lv_topi (fun z6 ez6 => ?_)
  obtain rfl : z6 = sc 1 := ez6.trans (congrArg sc (by decide))
  refine lv_aload_n hx hb dL_law_549 rfl (lv_at hl 3 rfl) ?_
  refine lv_iload_n hx hb dL_law_550 rfl (lv_at hl 0 rfl) ?_
  refine lv_iconst (v := (2 : Int32)) hx hb dL_law_551 (by decide) ?_
  refine lv_iadd hx hb dL_law_552 ?_
  refine lv_topi (fun z7 ez7 => ?_)
  obtain rfl : z7 = (2 : Int32) := ez7.trans (by decide)
  refine va_sld hx hb Z.2.2.1 Z.2.2.2 hbA hG.1.2.2 (vp_inL (by decide)) dL_law_553 ?_
  refine lv_topi (fun z8 ez8 => ?_)
  obtain rfl : z8 = sc 2 := ez8.trans (congrArg sc (by decide))
  refine g_ViG C hl.1 (fun _ h => h) hG (As := [.int (sc 1), .int (sc 2)]) (rest := [.int r1]) (m_at l E K k my fy am_lines af_lines am_has af_has (sc 1) (sc 2)) my_X10_at wd446 my fy rfl rfl rfl (Nat.le_of_ble_eq_true rfl) ⟨Nat.le_of_ble_eq_true rfl, Nat.le_of_ble_eq_true rfl⟩ ⟨hc, hs⟩ dL_law_554 (fun r2 K1 k1 H locs hp2 hG => ?_)
  have hG := hG.swap
  refine lv_icmp_eq (tgt := 2118) hx hb dL_law_557 (by decide) (fun _ => ?_) (fun h => absurd (hp1.1.trans hp2.symm) h)
  exact law_tail Z hG.1.2.2 hc hs hl
set_option maxHeartbeats 4000000 in
set_option maxRecDepth 100000 in
theorem law_8 {p : Program} {l : Launch} {e : Env} {s : State} {m : MethodId} {below : List Frame} {meth : Method} {c : Code} {b : Nat} {sc : Nat → Int32} {E : gE} {L K : List Nat} {f k : gF} {x y : Nat} {H : Heap} {locs : List Loc} {cells slots : Nat} {ls : Array Slot} (Z : gLw E p s m meth c b 6 sc) (hG : gG E (fun q : Nat => s.heap.size ≤ q) L f K k s.heap H locs) (hX : gFresh E L f x) (hY : gFreshM E K k y) (hc : cells ≤ 600000) (hs : slots ≤ 7302249) (hl : lv_has ls 4 [(3, .int (0 : Int32)), (2, .ref y), (1, .ref x), (0, .ref b)]) : W p l e room_1 s m #[Value.ref b] below meth c H locs cells slots (lw_Z below #[Value.ref b] s) (F0 m 562 ls []) := by
  have C := Z.1
  have hx := C.1
  have hb := C.2.1
  have hbA : ¬ (fun q : Nat => s.heap.size ≤ q) b := Nat.not_le.mpr Z.2.2.2
  obtain ⟨xt, xn, xr, xi, xw, xs, xl, xc, xh, xf, xm, xb, xd, lf, ll, na, da, wv, iv, mx, fx, mt, ft, mb, fb, mn, fn, mr, fr, md, fd, ml, fl, mw, fw, mi, fi, mm, fm, gn, gd, hnd, wr, im⟩ := hX
  obtain ⟨ya, wc, my, fy, am_width, af_width, am_many, af_many, am_cells, af_cells, am_tape, af_tape, am_lines, af_lines, am_has, af_has, am_flight, af_flight, am_member, af_member, am_act, af_act, am_isKept, af_isKept, hw⟩ := hY
  refine lv_aload_n hx hb dL_law_562 rfl (lv_at hl 2 rfl) ?_
  refine lv_aload_n hx hb dL_law_563 rfl (lv_at hl 3 rfl) ?_
  refine lv_iload_n hx hb dL_law_564 rfl (lv_at hl 0 rfl) ?_
  refine lv_iconst (v := (1 : Int32)) hx hb dL_law_565 (by decide) ?_
  refine lv_iadd hx hb dL_law_566 ?_
  refine lv_topi (fun z1 ez1 => ?_)
  obtain rfl : z1 = (1 : Int32) := ez1.trans (by decide)
  refine va_sld hx hb Z.2.2.1 Z.2.2.2 hbA hG.1.2.2 (vp_inL (by decide)) dL_law_567 ?_
  refine lv_topi (fun z2 ez2 => ?_)
  obtain rfl : z2 = sc 1 := ez2.trans (congrArg sc (by decide))
  refine lv_aload_n hx hb dL_law_568 rfl (lv_at hl 3 rfl) ?_
  refine lv_iload_n hx hb dL_law_569 rfl (lv_at hl 0 rfl) ?_
  refine lv_iconst (v := (2 : Int32)) hx hb dL_law_570 (by decide) ?_
  refine lv_iadd hx hb dL_law_571 ?_
  refine lv_topi (fun z3 ez3 => ?_)
  obtain rfl : z3 = (2 : Int32) := ez3.trans (by decide)
  refine va_sld hx hb Z.2.2.1 Z.2.2.2 hbA hG.1.2.2 (vp_inL (by decide)) dL_law_572 ?_
  refine lv_topi (fun z4 ez4 => ?_)
  obtain rfl : z4 = sc 2 := ez4.trans (congrArg sc (by decide))
  refine g_ViG C hl.1 (fun _ h => h) hG (As := [.int (sc 1), .int (sc 2)]) (rest := []) (k_heads l E L f mx fx mn fn (sc 1) (sc 2)) my_X9_heads wd450 mx fx rfl rfl rfl (Nat.le_of_ble_eq_true rfl) ⟨Nat.le_of_ble_eq_true rfl, Nat.le_of_ble_eq_true rfl⟩ ⟨hc, hs⟩ dL_law_573 (fun r1 L1 f1 H locs hp1 hG => ?_)
  have hG := hG.swap
  refine lv_aload_n hx hb dL_law_576 rfl (lv_at hl 1 rfl) ?_
  refine lv_aload_n hx hb dL_law_577 rfl (lv_at hl 3 rfl) ?_
  refine lv_iload_n hx hb dL_law_578 rfl (lv_at hl 0 rfl) ?_
  refine lv_iconst (v := (1 : Int32)) hx hb dL_law_579 (by decide) ?_
  refine lv_iadd hx hb dL_law_580 ?_
  refine lv_topi (fun z5 ez5 => ?_)
  obtain rfl : z5 = (1 : Int32) := ez5.trans (by decide)
  refine va_sld hx hb Z.2.2.1 Z.2.2.2 hbA hG.1.2.2 (vp_inL (by decide)) dL_law_581 ?_
  refine lv_topi (fun z6 ez6 => ?_)
  obtain rfl : z6 = sc 1 := ez6.trans (congrArg sc (by decide))
  refine lv_aload_n hx hb dL_law_582 rfl (lv_at hl 3 rfl) ?_
  refine lv_iload_n hx hb dL_law_583 rfl (lv_at hl 0 rfl) ?_
  refine lv_iconst (v := (2 : Int32)) hx hb dL_law_584 (by decide) ?_
  refine lv_iadd hx hb dL_law_585 ?_
  refine lv_topi (fun z7 ez7 => ?_)
  obtain rfl : z7 = (2 : Int32) := ez7.trans (by decide)
  refine va_sld hx hb Z.2.2.1 Z.2.2.2 hbA hG.1.2.2 (vp_inL (by decide)) dL_law_586 ?_
  refine lv_topi (fun z8 ez8 => ?_)
  obtain rfl : z8 = sc 2 := ez8.trans (congrArg sc (by decide))
  refine g_ViG C hl.1 (fun _ h => h) hG (As := [.int (sc 1), .int (sc 2)]) (rest := [.int r1]) (m_heads l E K k my fy am_lines af_lines am_has af_has (sc 1) (sc 2)) my_X10_heads wd454 my fy rfl rfl rfl (Nat.le_of_ble_eq_true rfl) ⟨Nat.le_of_ble_eq_true rfl, Nat.le_of_ble_eq_true rfl⟩ ⟨hc, hs⟩ dL_law_587 (fun r2 K1 k1 H locs hp2 hG => ?_)
  have hG := hG.swap
  refine lv_icmp_eq (tgt := 2118) hx hb dL_law_590 (by decide) (fun _ => ?_) (fun h => absurd (hp1.1.trans hp2.symm) h)
  exact law_tail Z hG.1.2.2 hc hs hl
set_option maxHeartbeats 4000000 in
set_option maxRecDepth 100000 in
theorem law_9 {p : Program} {l : Launch} {e : Env} {s : State} {m : MethodId} {below : List Frame} {meth : Method} {c : Code} {b : Nat} {sc : Nat → Int32} {E : gE} {L K : List Nat} {f k : gF} {x y : Nat} {H : Heap} {locs : List Loc} {cells slots : Nat} {ls : Array Slot} (Z : gLw E p s m meth c b 6 sc) (hG : gG E (fun q : Nat => s.heap.size ≤ q) L f K k s.heap H locs) (hX : gFresh E L f x) (hY : gFreshM E K k y) (hc : cells ≤ 600000) (hs : slots ≤ 7302249) (hl : lv_has ls 4 [(3, .int (0 : Int32)), (2, .ref y), (1, .ref x), (0, .ref b)]) : W p l e room_1 s m #[Value.ref b] below meth c H locs cells slots (lw_Z below #[Value.ref b] s) (F0 m 595 ls []) := by
  have C := Z.1
  have hx := C.1
  have hb := C.2.1
  have hbA : ¬ (fun q : Nat => s.heap.size ≤ q) b := Nat.not_le.mpr Z.2.2.2
  obtain ⟨xt, xn, xr, xi, xw, xs, xl, xc, xh, xf, xm, xb, xd, lf, ll, na, da, wv, iv, mx, fx, mt, ft, mb, fb, mn, fn, mr, fr, md, fd, ml, fl, mw, fw, mi, fi, mm, fm, gn, gd, hnd, wr, im⟩ := hX
  obtain ⟨ya, wc, my, fy, am_width, af_width, am_many, af_many, am_cells, af_cells, am_tape, af_tape, am_lines, af_lines, am_has, af_has, am_flight, af_flight, am_member, af_member, am_act, af_act, am_isKept, af_isKept, hw⟩ := hY
  refine lv_aload_n hx hb dL_law_595 rfl (lv_at hl 2 rfl) ?_
  refine lv_aload_n hx hb dL_law_596 rfl (lv_at hl 3 rfl) ?_
  refine lv_iload_n hx hb dL_law_597 rfl (lv_at hl 0 rfl) ?_
  refine lv_iconst (v := (1 : Int32)) hx hb dL_law_598 (by decide) ?_
  refine lv_iadd hx hb dL_law_599 ?_
  refine lv_topi (fun z1 ez1 => ?_)
  obtain rfl : z1 = (1 : Int32) := ez1.trans (by decide)
  refine va_sld hx hb Z.2.2.1 Z.2.2.2 hbA hG.1.2.2 (vp_inL (by decide)) dL_law_600 ?_
  refine lv_topi (fun z2 ez2 => ?_)
  obtain rfl : z2 = sc 1 := ez2.trans (congrArg sc (by decide))
  refine g_ViG C hl.1 (fun _ h => h) hG (As := [.int (sc 1)]) (rest := []) (k_out l E L f mx fx mn fn (sc 1)) my_X9_out wd458 mx fx rfl rfl rfl (Nat.le_of_ble_eq_true rfl) ⟨Nat.le_of_ble_eq_true rfl, Nat.le_of_ble_eq_true rfl⟩ ⟨hc, hs⟩ dL_law_601 (fun r1 L1 f1 H locs hp1 hG => ?_)
  have hG := hG.swap
  refine lv_aload_n hx hb dL_law_604 rfl (lv_at hl 1 rfl) ?_
  refine lv_aload_n hx hb dL_law_605 rfl (lv_at hl 3 rfl) ?_
  refine lv_iload_n hx hb dL_law_606 rfl (lv_at hl 0 rfl) ?_
  refine lv_iconst (v := (1 : Int32)) hx hb dL_law_607 (by decide) ?_
  refine lv_iadd hx hb dL_law_608 ?_
  refine lv_topi (fun z3 ez3 => ?_)
  obtain rfl : z3 = (1 : Int32) := ez3.trans (by decide)
  refine va_sld hx hb Z.2.2.1 Z.2.2.2 hbA hG.1.2.2 (vp_inL (by decide)) dL_law_609 ?_
  refine lv_topi (fun z4 ez4 => ?_)
  obtain rfl : z4 = sc 1 := ez4.trans (congrArg sc (by decide))
  refine g_ViG C hl.1 (fun _ h => h) hG (As := [.int (sc 1)]) (rest := [.int r1]) (m_out l E K k my fy am_lines af_lines am_has af_has (sc 1)) my_X10_out wd462 my fy rfl rfl rfl (Nat.le_of_ble_eq_true rfl) ⟨Nat.le_of_ble_eq_true rfl, Nat.le_of_ble_eq_true rfl⟩ ⟨hc, hs⟩ dL_law_610 (fun r2 K1 k1 H locs hp2 hG => ?_)
  have hG := hG.swap
  refine lv_icmp_eq (tgt := 2118) hx hb dL_law_613 (by decide) (fun _ => ?_) (fun h => absurd (hp1.1.trans hp2.symm) h)
  exact law_tail Z hG.1.2.2 hc hs hl
set_option maxHeartbeats 4000000 in
set_option maxRecDepth 100000 in
theorem law_10 {p : Program} {l : Launch} {e : Env} {s : State} {m : MethodId} {below : List Frame} {meth : Method} {c : Code} {b : Nat} {sc : Nat → Int32} {E : gE} {L K : List Nat} {f k : gF} {x y : Nat} {H : Heap} {locs : List Loc} {cells slots : Nat} {ls : Array Slot} (Z : gLw E p s m meth c b 6 sc) (hG : gG E (fun q : Nat => s.heap.size ≤ q) L f K k s.heap H locs) (hX : gFresh E L f x) (hY : gFreshM E K k y) (hc : cells ≤ 600000) (hs : slots ≤ 7302249) (hl : lv_has ls 4 [(3, .int (0 : Int32)), (2, .ref y), (1, .ref x), (0, .ref b)]) : W p l e room_1 s m #[Value.ref b] below meth c H locs cells slots (lw_Z below #[Value.ref b] s) (F0 m 618 ls []) := by
  have C := Z.1
  have hx := C.1
  have hb := C.2.1
  have hbA : ¬ (fun q : Nat => s.heap.size ≤ q) b := Nat.not_le.mpr Z.2.2.2
  obtain ⟨xt, xn, xr, xi, xw, xs, xl, xc, xh, xf, xm, xb, xd, lf, ll, na, da, wv, iv, mx, fx, mt, ft, mb, fb, mn, fn, mr, fr, md, fd, ml, fl, mw, fw, mi, fi, mm, fm, gn, gd, hnd, wr, im⟩ := hX
  obtain ⟨ya, wc, my, fy, am_width, af_width, am_many, af_many, am_cells, af_cells, am_tape, af_tape, am_lines, af_lines, am_has, af_has, am_flight, af_flight, am_member, af_member, am_act, af_act, am_isKept, af_isKept, hw⟩ := hY
  refine lv_aload_n hx hb dL_law_618 rfl (lv_at hl 2 rfl) ?_
  refine lv_aload_n hx hb dL_law_619 rfl (lv_at hl 3 rfl) ?_
  refine lv_iload_n hx hb dL_law_620 rfl (lv_at hl 0 rfl) ?_
  refine lv_iconst (v := (1 : Int32)) hx hb dL_law_621 (by decide) ?_
  refine lv_iadd hx hb dL_law_622 ?_
  refine lv_topi (fun z1 ez1 => ?_)
  obtain rfl : z1 = (1 : Int32) := ez1.trans (by decide)
  refine va_sld hx hb Z.2.2.1 Z.2.2.2 hbA hG.1.2.2 (vp_inL (by decide)) dL_law_623 ?_
  refine lv_topi (fun z2 ez2 => ?_)
  obtain rfl : z2 = sc 1 := ez2.trans (congrArg sc (by decide))
  refine g_ViG C hl.1 (fun _ h => h) hG (As := [.int (sc 1)]) (rest := []) (k_bends l E L f mx fx mn fn (sc 1)) my_X9_bends wd466 mx fx rfl rfl rfl (Nat.le_of_ble_eq_true rfl) ⟨Nat.le_of_ble_eq_true rfl, Nat.le_of_ble_eq_true rfl⟩ ⟨hc, hs⟩ dL_law_624 (fun r1 L1 f1 H locs hp1 hG => ?_)
  have hG := hG.swap
  refine lv_aload_n hx hb dL_law_627 rfl (lv_at hl 1 rfl) ?_
  refine lv_aload_n hx hb dL_law_628 rfl (lv_at hl 3 rfl) ?_
  refine lv_iload_n hx hb dL_law_629 rfl (lv_at hl 0 rfl) ?_
  refine lv_iconst (v := (1 : Int32)) hx hb dL_law_630 (by decide) ?_
  refine lv_iadd hx hb dL_law_631 ?_
  refine lv_topi (fun z3 ez3 => ?_)
  obtain rfl : z3 = (1 : Int32) := ez3.trans (by decide)
  refine va_sld hx hb Z.2.2.1 Z.2.2.2 hbA hG.1.2.2 (vp_inL (by decide)) dL_law_632 ?_
  refine lv_topi (fun z4 ez4 => ?_)
  obtain rfl : z4 = sc 1 := ez4.trans (congrArg sc (by decide))
  refine g_ViG C hl.1 (fun _ h => h) hG (As := [.int (sc 1)]) (rest := [.int r1]) (m_bends l E K k my fy am_lines af_lines am_has af_has (sc 1)) my_X10_bends wd470 my fy rfl rfl rfl (Nat.le_of_ble_eq_true rfl) ⟨Nat.le_of_ble_eq_true rfl, Nat.le_of_ble_eq_true rfl⟩ ⟨hc, hs⟩ dL_law_633 (fun r2 K1 k1 H locs hp2 hG => ?_)
  have hG := hG.swap
  refine lv_icmp_eq (tgt := 2118) hx hb dL_law_636 (by decide) (fun _ => ?_) (fun h => absurd (hp1.1.trans hp2.symm) h)
  exact law_tail Z hG.1.2.2 hc hs hl
set_option maxHeartbeats 4000000 in
set_option maxRecDepth 100000 in
theorem law_11 {p : Program} {l : Launch} {e : Env} {s : State} {m : MethodId} {below : List Frame} {meth : Method} {c : Code} {b : Nat} {sc : Nat → Int32} {E : gE} {L K : List Nat} {f k : gF} {x y : Nat} {H : Heap} {locs : List Loc} {cells slots : Nat} {ls : Array Slot} (Z : gLw E p s m meth c b 6 sc) (hG : gG E (fun q : Nat => s.heap.size ≤ q) L f K k s.heap H locs) (hX : gFresh E L f x) (hY : gFreshM E K k y) (hc : cells ≤ 600000) (hs : slots ≤ 7302249) (hl : lv_has ls 4 [(3, .int (0 : Int32)), (2, .ref y), (1, .ref x), (0, .ref b)]) : W p l e room_1 s m #[Value.ref b] below meth c H locs cells slots (lw_Z below #[Value.ref b] s) (F0 m 641 ls []) := by
  have C := Z.1
  have hx := C.1
  have hb := C.2.1
  have hbA : ¬ (fun q : Nat => s.heap.size ≤ q) b := Nat.not_le.mpr Z.2.2.2
  obtain ⟨xt, xn, xr, xi, xw, xs, xl, xc, xh, xf, xm, xb, xd, lf, ll, na, da, wv, iv, mx, fx, mt, ft, mb, fb, mn, fn, mr, fr, md, fd, ml, fl, mw, fw, mi, fi, mm, fm, gn, gd, hnd, wr, im⟩ := hX
  obtain ⟨ya, wc, my, fy, am_width, af_width, am_many, af_many, am_cells, af_cells, am_tape, af_tape, am_lines, af_lines, am_has, af_has, am_flight, af_flight, am_member, af_member, am_act, af_act, am_isKept, af_isKept, hw⟩ := hY
  refine lv_aload_n hx hb dL_law_641 rfl (lv_at hl 2 rfl) ?_
  refine lv_aload_n hx hb dL_law_642 rfl (lv_at hl 3 rfl) ?_
  refine lv_iload_n hx hb dL_law_643 rfl (lv_at hl 0 rfl) ?_
  refine lv_iconst (v := (1 : Int32)) hx hb dL_law_644 (by decide) ?_
  refine lv_iadd hx hb dL_law_645 ?_
  refine lv_topi (fun z1 ez1 => ?_)
  obtain rfl : z1 = (1 : Int32) := ez1.trans (by decide)
  refine va_sld hx hb Z.2.2.1 Z.2.2.2 hbA hG.1.2.2 (vp_inL (by decide)) dL_law_646 ?_
  refine lv_topi (fun z2 ez2 => ?_)
  obtain rfl : z2 = sc 1 := ez2.trans (congrArg sc (by decide))
  refine g_ViG C hl.1 (fun _ h => h) hG (As := [.int (sc 1)]) (rest := []) (k_way l E L f mx fx mn fn (sc 1)) my_X9_way wd474 mx fx rfl rfl rfl (Nat.le_of_ble_eq_true rfl) ⟨Nat.le_of_ble_eq_true rfl, Nat.le_of_ble_eq_true rfl⟩ ⟨hc, hs⟩ dL_law_647 (fun r1 L1 f1 H locs hp1 hG => ?_)
  have hG := hG.swap
  refine lv_aload_n hx hb dL_law_650 rfl (lv_at hl 1 rfl) ?_
  refine lv_aload_n hx hb dL_law_651 rfl (lv_at hl 3 rfl) ?_
  refine lv_iload_n hx hb dL_law_652 rfl (lv_at hl 0 rfl) ?_
  refine lv_iconst (v := (1 : Int32)) hx hb dL_law_653 (by decide) ?_
  refine lv_iadd hx hb dL_law_654 ?_
  refine lv_topi (fun z3 ez3 => ?_)
  obtain rfl : z3 = (1 : Int32) := ez3.trans (by decide)
  refine va_sld hx hb Z.2.2.1 Z.2.2.2 hbA hG.1.2.2 (vp_inL (by decide)) dL_law_655 ?_
  refine lv_topi (fun z4 ez4 => ?_)
  obtain rfl : z4 = sc 1 := ez4.trans (congrArg sc (by decide))
  refine g_ViG C hl.1 (fun _ h => h) hG (As := [.int (sc 1)]) (rest := [.int r1]) (m_way l E K k my fy am_lines af_lines am_has af_has (sc 1)) my_X10_way wd478 my fy rfl rfl rfl (Nat.le_of_ble_eq_true rfl) ⟨Nat.le_of_ble_eq_true rfl, Nat.le_of_ble_eq_true rfl⟩ ⟨hc, hs⟩ dL_law_656 (fun r2 K1 k1 H locs hp2 hG => ?_)
  have hG := hG.swap
  refine lv_icmp_eq (tgt := 2118) hx hb dL_law_659 (by decide) (fun _ => ?_) (fun h => absurd (hp1.1.trans hp2.symm) h)
  exact law_tail Z hG.1.2.2 hc hs hl
set_option maxHeartbeats 4000000 in
set_option maxRecDepth 100000 in
theorem law_12 {p : Program} {l : Launch} {e : Env} {s : State} {m : MethodId} {below : List Frame} {meth : Method} {c : Code} {b : Nat} {sc : Nat → Int32} {E : gE} {L K : List Nat} {f k : gF} {x y : Nat} {H : Heap} {locs : List Loc} {cells slots : Nat} {ls : Array Slot} (Z : gLw E p s m meth c b 6 sc) (hG : gG E (fun q : Nat => s.heap.size ≤ q) L f K k s.heap H locs) (hX : gFresh E L f x) (hY : gFreshM E K k y) (hc : cells ≤ 600000) (hs : slots ≤ 7302249) (hl : lv_has ls 4 [(3, .int (0 : Int32)), (2, .ref y), (1, .ref x), (0, .ref b)]) : W p l e room_1 s m #[Value.ref b] below meth c H locs cells slots (lw_Z below #[Value.ref b] s) (F0 m 664 ls []) := by
  have C := Z.1
  have hx := C.1
  have hb := C.2.1
  have hbA : ¬ (fun q : Nat => s.heap.size ≤ q) b := Nat.not_le.mpr Z.2.2.2
  obtain ⟨xt, xn, xr, xi, xw, xs, xl, xc, xh, xf, xm, xb, xd, lf, ll, na, da, wv, iv, mx, fx, mt, ft, mb, fb, mn, fn, mr, fr, md, fd, ml, fl, mw, fw, mi, fi, mm, fm, gn, gd, hnd, wr, im⟩ := hX
  obtain ⟨ya, wc, my, fy, am_width, af_width, am_many, af_many, am_cells, af_cells, am_tape, af_tape, am_lines, af_lines, am_has, af_has, am_flight, af_flight, am_member, af_member, am_act, af_act, am_isKept, af_isKept, hw⟩ := hY
  refine lv_aload_n hx hb dL_law_664 rfl (lv_at hl 2 rfl) ?_
  refine lv_aload_n hx hb dL_law_665 rfl (lv_at hl 3 rfl) ?_
  refine lv_iload_n hx hb dL_law_666 rfl (lv_at hl 0 rfl) ?_
  refine lv_iconst (v := (1 : Int32)) hx hb dL_law_667 (by decide) ?_
  refine lv_iadd hx hb dL_law_668 ?_
  refine lv_topi (fun z1 ez1 => ?_)
  obtain rfl : z1 = (1 : Int32) := ez1.trans (by decide)
  refine va_sld hx hb Z.2.2.1 Z.2.2.2 hbA hG.1.2.2 (vp_inL (by decide)) dL_law_669 ?_
  refine lv_topi (fun z2 ez2 => ?_)
  obtain rfl : z2 = sc 1 := ez2.trans (congrArg sc (by decide))
  refine g_ViG C hl.1 (fun _ h => h) hG (As := [.int (sc 1)]) (rest := []) (k_over l E L f mx fx mn fn (sc 1)) my_X9_over wd482 mx fx rfl rfl rfl (Nat.le_of_ble_eq_true rfl) ⟨Nat.le_of_ble_eq_true rfl, Nat.le_of_ble_eq_true rfl⟩ ⟨hc, hs⟩ dL_law_670 (fun r1 L1 f1 H locs hp1 hG => ?_)
  have hG := hG.swap
  refine lv_aload_n hx hb dL_law_673 rfl (lv_at hl 1 rfl) ?_
  refine lv_aload_n hx hb dL_law_674 rfl (lv_at hl 3 rfl) ?_
  refine lv_iload_n hx hb dL_law_675 rfl (lv_at hl 0 rfl) ?_
  refine lv_iconst (v := (1 : Int32)) hx hb dL_law_676 (by decide) ?_
  refine lv_iadd hx hb dL_law_677 ?_
  refine lv_topi (fun z3 ez3 => ?_)
  obtain rfl : z3 = (1 : Int32) := ez3.trans (by decide)
  refine va_sld hx hb Z.2.2.1 Z.2.2.2 hbA hG.1.2.2 (vp_inL (by decide)) dL_law_678 ?_
  refine lv_topi (fun z4 ez4 => ?_)
  obtain rfl : z4 = sc 1 := ez4.trans (congrArg sc (by decide))
  refine g_ViG C hl.1 (fun _ h => h) hG (As := [.int (sc 1)]) (rest := [.int r1]) (m_over l E K k my fy am_lines af_lines am_has af_has (sc 1)) my_X10_over wd486 my fy rfl rfl rfl (Nat.le_of_ble_eq_true rfl) ⟨Nat.le_of_ble_eq_true rfl, Nat.le_of_ble_eq_true rfl⟩ ⟨hc, hs⟩ dL_law_679 (fun r2 K1 k1 H locs hp2 hG => ?_)
  have hG := hG.swap
  refine lv_icmp_eq (tgt := 2118) hx hb dL_law_682 (by decide) (fun _ => ?_) (fun h => absurd (hp1.1.trans hp2.symm) h)
  exact law_tail Z hG.1.2.2 hc hs hl
set_option maxHeartbeats 4000000 in
set_option maxRecDepth 100000 in
theorem law_13 {p : Program} {l : Launch} {e : Env} {s : State} {m : MethodId} {below : List Frame} {meth : Method} {c : Code} {b : Nat} {sc : Nat → Int32} {E : gE} {L K : List Nat} {f k : gF} {x y : Nat} {H : Heap} {locs : List Loc} {cells slots : Nat} {ls : Array Slot} (Z : gLw E p s m meth c b 6 sc) (hG : gG E (fun q : Nat => s.heap.size ≤ q) L f K k s.heap H locs) (hX : gFresh E L f x) (hY : gFreshM E K k y) (hc : cells ≤ 600000) (hs : slots ≤ 7302249) (hl : lv_has ls 4 [(3, .int (0 : Int32)), (2, .ref y), (1, .ref x), (0, .ref b)]) : W p l e room_1 s m #[Value.ref b] below meth c H locs cells slots (lw_Z below #[Value.ref b] s) (F0 m 687 ls []) := by
  have C := Z.1
  have hx := C.1
  have hb := C.2.1
  have hbA : ¬ (fun q : Nat => s.heap.size ≤ q) b := Nat.not_le.mpr Z.2.2.2
  obtain ⟨xt, xn, xr, xi, xw, xs, xl, xc, xh, xf, xm, xb, xd, lf, ll, na, da, wv, iv, mx, fx, mt, ft, mb, fb, mn, fn, mr, fr, md, fd, ml, fl, mw, fw, mi, fi, mm, fm, gn, gd, hnd, wr, im⟩ := hX
  obtain ⟨ya, wc, my, fy, am_width, af_width, am_many, af_many, am_cells, af_cells, am_tape, af_tape, am_lines, af_lines, am_has, af_has, am_flight, af_flight, am_member, af_member, am_act, af_act, am_isKept, af_isKept, hw⟩ := hY
  refine lv_aload_n hx hb dL_law_687 rfl (lv_at hl 2 rfl) ?_
  refine lv_aload_n hx hb dL_law_688 rfl (lv_at hl 3 rfl) ?_
  refine lv_iload_n hx hb dL_law_689 rfl (lv_at hl 0 rfl) ?_
  refine lv_iconst (v := (1 : Int32)) hx hb dL_law_690 (by decide) ?_
  refine lv_iadd hx hb dL_law_691 ?_
  refine lv_topi (fun z1 ez1 => ?_)
  obtain rfl : z1 = (1 : Int32) := ez1.trans (by decide)
  refine va_sld hx hb Z.2.2.1 Z.2.2.2 hbA hG.1.2.2 (vp_inL (by decide)) dL_law_692 ?_
  refine lv_topi (fun z2 ez2 => ?_)
  obtain rfl : z2 = sc 1 := ez2.trans (congrArg sc (by decide))
  refine lv_aload_n hx hb dL_law_693 rfl (lv_at hl 3 rfl) ?_
  refine lv_iload_n hx hb dL_law_694 rfl (lv_at hl 0 rfl) ?_
  refine lv_iconst (v := (2 : Int32)) hx hb dL_law_695 (by decide) ?_
  refine lv_iadd hx hb dL_law_696 ?_
  refine lv_topi (fun z3 ez3 => ?_)
  obtain rfl : z3 = (2 : Int32) := ez3.trans (by decide)
  refine va_sld hx hb Z.2.2.1 Z.2.2.2 hbA hG.1.2.2 (vp_inL (by decide)) dL_law_697 ?_
  refine lv_topi (fun z4 ez4 => ?_)
  obtain rfl : z4 = sc 2 := ez4.trans (congrArg sc (by decide))
  refine g_ViG C hl.1 (fun _ h => h) hG (As := [.int (sc 1), .int (sc 2)]) (rest := []) (k_geese l E L f mx fx mn fn (sc 1) (sc 2)) my_X9_geese wd490 mx fx rfl rfl rfl (Nat.le_of_ble_eq_true rfl) ⟨Nat.le_of_ble_eq_true rfl, Nat.le_of_ble_eq_true rfl⟩ ⟨hc, hs⟩ dL_law_698 (fun r1 L1 f1 H locs hp1 hG => ?_)
  have hG := hG.swap
  refine lv_aload_n hx hb dL_law_701 rfl (lv_at hl 1 rfl) ?_
  refine lv_aload_n hx hb dL_law_702 rfl (lv_at hl 3 rfl) ?_
  refine lv_iload_n hx hb dL_law_703 rfl (lv_at hl 0 rfl) ?_
  refine lv_iconst (v := (1 : Int32)) hx hb dL_law_704 (by decide) ?_
  refine lv_iadd hx hb dL_law_705 ?_
  refine lv_topi (fun z5 ez5 => ?_)
  obtain rfl : z5 = (1 : Int32) := ez5.trans (by decide)
  refine va_sld hx hb Z.2.2.1 Z.2.2.2 hbA hG.1.2.2 (vp_inL (by decide)) dL_law_706 ?_
  refine lv_topi (fun z6 ez6 => ?_)
  obtain rfl : z6 = sc 1 := ez6.trans (congrArg sc (by decide))
  refine lv_aload_n hx hb dL_law_707 rfl (lv_at hl 3 rfl) ?_
  refine lv_iload_n hx hb dL_law_708 rfl (lv_at hl 0 rfl) ?_
  refine lv_iconst (v := (2 : Int32)) hx hb dL_law_709 (by decide) ?_
  refine lv_iadd hx hb dL_law_710 ?_
  refine lv_topi (fun z7 ez7 => ?_)
  obtain rfl : z7 = (2 : Int32) := ez7.trans (by decide)
  refine va_sld hx hb Z.2.2.1 Z.2.2.2 hbA hG.1.2.2 (vp_inL (by decide)) dL_law_711 ?_
  refine lv_topi (fun z8 ez8 => ?_)
  obtain rfl : z8 = sc 2 := ez8.trans (congrArg sc (by decide))
  refine g_ViG C hl.1 (fun _ h => h) hG (As := [.int (sc 1), .int (sc 2)]) (rest := [.int r1]) (m_geese l E K k my fy am_lines af_lines am_has af_has (sc 1) (sc 2)) my_X10_geese wd494 my fy rfl rfl rfl (Nat.le_of_ble_eq_true rfl) ⟨Nat.le_of_ble_eq_true rfl, Nat.le_of_ble_eq_true rfl⟩ ⟨hc, hs⟩ dL_law_712 (fun r2 K1 k1 H locs hp2 hG => ?_)
  have hG := hG.swap
  refine lv_icmp_eq (tgt := 2118) hx hb dL_law_715 (by decide) (fun _ => ?_) (fun h => absurd (hp1.1.trans hp2.symm) h)
  exact law_tail Z hG.1.2.2 hc hs hl
set_option maxHeartbeats 4000000 in
set_option maxRecDepth 100000 in
theorem law_14 {p : Program} {l : Launch} {e : Env} {s : State} {m : MethodId} {below : List Frame} {meth : Method} {c : Code} {b : Nat} {sc : Nat → Int32} {E : gE} {L K : List Nat} {f k : gF} {x y : Nat} {H : Heap} {locs : List Loc} {cells slots : Nat} {ls : Array Slot} (Z : gLw E p s m meth c b 6 sc) (hG : gG E (fun q : Nat => s.heap.size ≤ q) L f K k s.heap H locs) (hX : gFresh E L f x) (hY : gFreshM E K k y) (hc : cells ≤ 600000) (hs : slots ≤ 7302249) (hl : lv_has ls 4 [(3, .int (0 : Int32)), (2, .ref y), (1, .ref x), (0, .ref b)]) : W p l e room_1 s m #[Value.ref b] below meth c H locs cells slots (lw_Z below #[Value.ref b] s) (F0 m 720 ls []) := by
  have C := Z.1
  have hx := C.1
  have hb := C.2.1
  have hbA : ¬ (fun q : Nat => s.heap.size ≤ q) b := Nat.not_le.mpr Z.2.2.2
  obtain ⟨xt, xn, xr, xi, xw, xs, xl, xc, xh, xf, xm, xb, xd, lf, ll, na, da, wv, iv, mx, fx, mt, ft, mb, fb, mn, fn, mr, fr, md, fd, ml, fl, mw, fw, mi, fi, mm, fm, gn, gd, hnd, wr, im⟩ := hX
  obtain ⟨ya, wc, my, fy, am_width, af_width, am_many, af_many, am_cells, af_cells, am_tape, af_tape, am_lines, af_lines, am_has, af_has, am_flight, af_flight, am_member, af_member, am_act, af_act, am_isKept, af_isKept, hw⟩ := hY
  refine lv_aload_n hx hb dL_law_720 rfl (lv_at hl 2 rfl) ?_
  refine lv_aload_n hx hb dL_law_721 rfl (lv_at hl 3 rfl) ?_
  refine lv_iload_n hx hb dL_law_722 rfl (lv_at hl 0 rfl) ?_
  refine lv_iconst (v := (1 : Int32)) hx hb dL_law_723 (by decide) ?_
  refine lv_iadd hx hb dL_law_724 ?_
  refine lv_topi (fun z1 ez1 => ?_)
  obtain rfl : z1 = (1 : Int32) := ez1.trans (by decide)
  refine va_sld hx hb Z.2.2.1 Z.2.2.2 hbA hG.1.2.2 (vp_inL (by decide)) dL_law_725 ?_
  refine lv_topi (fun z2 ez2 => ?_)
  obtain rfl : z2 = sc 1 := ez2.trans (congrArg sc (by decide))
  refine lv_aload_n hx hb dL_law_726 rfl (lv_at hl 3 rfl) ?_
  refine lv_iload_n hx hb dL_law_727 rfl (lv_at hl 0 rfl) ?_
  refine lv_iconst (v := (2 : Int32)) hx hb dL_law_728 (by decide) ?_
  refine lv_iadd hx hb dL_law_729 ?_
  refine lv_topi (fun z3 ez3 => ?_)
  obtain rfl : z3 = (2 : Int32) := ez3.trans (by decide)
  refine va_sld hx hb Z.2.2.1 Z.2.2.2 hbA hG.1.2.2 (vp_inL (by decide)) dL_law_730 ?_
  refine lv_topi (fun z4 ez4 => ?_)
  obtain rfl : z4 = sc 2 := ez4.trans (congrArg sc (by decide))
  refine g_ViG C hl.1 (fun _ h => h) hG (As := [.int (sc 1), .int (sc 2)]) (rest := []) (k_hears l E L f mx fx mn fn (sc 1) (sc 2)) my_X9_hears wd498 mx fx rfl rfl rfl (Nat.le_of_ble_eq_true rfl) ⟨Nat.le_of_ble_eq_true rfl, Nat.le_of_ble_eq_true rfl⟩ ⟨hc, hs⟩ dL_law_731 (fun r1 L1 f1 H locs hp1 hG => ?_)
  have hG := hG.swap
  refine lv_aload_n hx hb dL_law_734 rfl (lv_at hl 1 rfl) ?_
  refine lv_aload_n hx hb dL_law_735 rfl (lv_at hl 3 rfl) ?_
  refine lv_iload_n hx hb dL_law_736 rfl (lv_at hl 0 rfl) ?_
  refine lv_iconst (v := (1 : Int32)) hx hb dL_law_737 (by decide) ?_
  refine lv_iadd hx hb dL_law_738 ?_
  refine lv_topi (fun z5 ez5 => ?_)
  obtain rfl : z5 = (1 : Int32) := ez5.trans (by decide)
  refine va_sld hx hb Z.2.2.1 Z.2.2.2 hbA hG.1.2.2 (vp_inL (by decide)) dL_law_739 ?_
  refine lv_topi (fun z6 ez6 => ?_)
  obtain rfl : z6 = sc 1 := ez6.trans (congrArg sc (by decide))
  refine lv_aload_n hx hb dL_law_740 rfl (lv_at hl 3 rfl) ?_
  refine lv_iload_n hx hb dL_law_741 rfl (lv_at hl 0 rfl) ?_
  refine lv_iconst (v := (2 : Int32)) hx hb dL_law_742 (by decide) ?_
  refine lv_iadd hx hb dL_law_743 ?_
  refine lv_topi (fun z7 ez7 => ?_)
  obtain rfl : z7 = (2 : Int32) := ez7.trans (by decide)
  refine va_sld hx hb Z.2.2.1 Z.2.2.2 hbA hG.1.2.2 (vp_inL (by decide)) dL_law_744 ?_
  refine lv_topi (fun z8 ez8 => ?_)
  obtain rfl : z8 = sc 2 := ez8.trans (congrArg sc (by decide))
  refine g_ViG C hl.1 (fun _ h => h) hG (As := [.int (sc 1), .int (sc 2)]) (rest := [.int r1]) (m_hears l E K k my fy am_lines af_lines am_has af_has (sc 1) (sc 2)) my_X10_hears wd502 my fy rfl rfl rfl (Nat.le_of_ble_eq_true rfl) ⟨Nat.le_of_ble_eq_true rfl, Nat.le_of_ble_eq_true rfl⟩ ⟨hc, hs⟩ dL_law_745 (fun r2 K1 k1 H locs hp2 hG => ?_)
  have hG := hG.swap
  refine lv_icmp_eq (tgt := 2118) hx hb dL_law_748 (by decide) (fun _ => ?_) (fun h => absurd (hp1.1.trans hp2.symm) h)
  exact law_tail Z hG.1.2.2 hc hs hl
set_option maxHeartbeats 4000000 in
set_option maxRecDepth 100000 in
theorem law_15 {p : Program} {l : Launch} {e : Env} {s : State} {m : MethodId} {below : List Frame} {meth : Method} {c : Code} {b : Nat} {sc : Nat → Int32} {E : gE} {L K : List Nat} {f k : gF} {x y : Nat} {H : Heap} {locs : List Loc} {cells slots : Nat} {ls : Array Slot} (Z : gLw E p s m meth c b 6 sc) (hG : gG E (fun q : Nat => s.heap.size ≤ q) L f K k s.heap H locs) (hX : gFresh E L f x) (hY : gFreshM E K k y) (hc : cells ≤ 600000) (hs : slots ≤ 7302249) (hl : lv_has ls 4 [(3, .int (0 : Int32)), (2, .ref y), (1, .ref x), (0, .ref b)]) : W p l e room_1 s m #[Value.ref b] below meth c H locs cells slots (lw_Z below #[Value.ref b] s) (F0 m 753 ls []) := by
  have C := Z.1
  have hx := C.1
  have hb := C.2.1
  have hbA : ¬ (fun q : Nat => s.heap.size ≤ q) b := Nat.not_le.mpr Z.2.2.2
  obtain ⟨xt, xn, xr, xi, xw, xs, xl, xc, xh, xf, xm, xb, xd, lf, ll, na, da, wv, iv, mx, fx, mt, ft, mb, fb, mn, fn, mr, fr, md, fd, ml, fl, mw, fw, mi, fi, mm, fm, gn, gd, hnd, wr, im⟩ := hX
  obtain ⟨ya, wc, my, fy, am_width, af_width, am_many, af_many, am_cells, af_cells, am_tape, af_tape, am_lines, af_lines, am_has, af_has, am_flight, af_flight, am_member, af_member, am_act, af_act, am_isKept, af_isKept, hw⟩ := hY
  refine lv_aload_n hx hb dL_law_753 rfl (lv_at hl 2 rfl) ?_
  refine lv_aload_n hx hb dL_law_754 rfl (lv_at hl 3 rfl) ?_
  refine lv_iload_n hx hb dL_law_755 rfl (lv_at hl 0 rfl) ?_
  refine lv_iconst (v := (1 : Int32)) hx hb dL_law_756 (by decide) ?_
  refine lv_iadd hx hb dL_law_757 ?_
  refine lv_topi (fun z1 ez1 => ?_)
  obtain rfl : z1 = (1 : Int32) := ez1.trans (by decide)
  refine va_sld hx hb Z.2.2.1 Z.2.2.2 hbA hG.1.2.2 (vp_inL (by decide)) dL_law_758 ?_
  refine lv_topi (fun z2 ez2 => ?_)
  obtain rfl : z2 = sc 1 := ez2.trans (congrArg sc (by decide))
  refine g_ViG C hl.1 (fun _ h => h) hG (As := [.int (sc 1)]) (rest := []) (k_heard l E L f mx fx mn fn (sc 1)) my_X9_heard wd506 mx fx rfl rfl rfl (Nat.le_of_ble_eq_true rfl) ⟨Nat.le_of_ble_eq_true rfl, Nat.le_of_ble_eq_true rfl⟩ ⟨hc, hs⟩ dL_law_759 (fun r1 L1 f1 H locs hp1 hG => ?_)
  have hG := hG.swap
  refine lv_aload_n hx hb dL_law_762 rfl (lv_at hl 1 rfl) ?_
  refine lv_aload_n hx hb dL_law_763 rfl (lv_at hl 3 rfl) ?_
  refine lv_iload_n hx hb dL_law_764 rfl (lv_at hl 0 rfl) ?_
  refine lv_iconst (v := (1 : Int32)) hx hb dL_law_765 (by decide) ?_
  refine lv_iadd hx hb dL_law_766 ?_
  refine lv_topi (fun z3 ez3 => ?_)
  obtain rfl : z3 = (1 : Int32) := ez3.trans (by decide)
  refine va_sld hx hb Z.2.2.1 Z.2.2.2 hbA hG.1.2.2 (vp_inL (by decide)) dL_law_767 ?_
  refine lv_topi (fun z4 ez4 => ?_)
  obtain rfl : z4 = sc 1 := ez4.trans (congrArg sc (by decide))
  refine g_ViG C hl.1 (fun _ h => h) hG (As := [.int (sc 1)]) (rest := [.int r1]) (m_heard l E K k my fy am_lines af_lines am_has af_has (sc 1)) my_X10_heard wd510 my fy rfl rfl rfl (Nat.le_of_ble_eq_true rfl) ⟨Nat.le_of_ble_eq_true rfl, Nat.le_of_ble_eq_true rfl⟩ ⟨hc, hs⟩ dL_law_768 (fun r2 K1 k1 H locs hp2 hG => ?_)
  have hG := hG.swap
  refine lv_icmp_eq (tgt := 2118) hx hb dL_law_771 (by decide) (fun _ => ?_) (fun h => absurd (hp1.1.trans hp2.symm) h)
  exact law_tail Z hG.1.2.2 hc hs hl
set_option maxHeartbeats 4000000 in
set_option maxRecDepth 100000 in
theorem law_16 {p : Program} {l : Launch} {e : Env} {s : State} {m : MethodId} {below : List Frame} {meth : Method} {c : Code} {b : Nat} {sc : Nat → Int32} {E : gE} {L K : List Nat} {f k : gF} {x y : Nat} {H : Heap} {locs : List Loc} {cells slots : Nat} {ls : Array Slot} (Z : gLw E p s m meth c b 6 sc) (hG : gG E (fun q : Nat => s.heap.size ≤ q) L f K k s.heap H locs) (hX : gFresh E L f x) (hY : gFreshM E K k y) (hc : cells ≤ 600000) (hs : slots ≤ 7302249) (hl : lv_has ls 4 [(3, .int (0 : Int32)), (2, .ref y), (1, .ref x), (0, .ref b)]) : W p l e room_1 s m #[Value.ref b] below meth c H locs cells slots (lw_Z below #[Value.ref b] s) (F0 m 776 ls []) := by
  have C := Z.1
  have hx := C.1
  have hb := C.2.1
  have hbA : ¬ (fun q : Nat => s.heap.size ≤ q) b := Nat.not_le.mpr Z.2.2.2
  obtain ⟨xt, xn, xr, xi, xw, xs, xl, xc, xh, xf, xm, xb, xd, lf, ll, na, da, wv, iv, mx, fx, mt, ft, mb, fb, mn, fn, mr, fr, md, fd, ml, fl, mw, fw, mi, fi, mm, fm, gn, gd, hnd, wr, im⟩ := hX
  obtain ⟨ya, wc, my, fy, am_width, af_width, am_many, af_many, am_cells, af_cells, am_tape, af_tape, am_lines, af_lines, am_has, af_has, am_flight, af_flight, am_member, af_member, am_act, af_act, am_isKept, af_isKept, hw⟩ := hY
  refine lv_aload_n hx hb dL_law_776 rfl (lv_at hl 2 rfl) ?_
  refine lv_aload_n hx hb dL_law_777 rfl (lv_at hl 3 rfl) ?_
  refine lv_iload_n hx hb dL_law_778 rfl (lv_at hl 0 rfl) ?_
  refine lv_iconst (v := (1 : Int32)) hx hb dL_law_779 (by decide) ?_
  refine lv_iadd hx hb dL_law_780 ?_
  refine lv_topi (fun z1 ez1 => ?_)
  obtain rfl : z1 = (1 : Int32) := ez1.trans (by decide)
  refine va_sld hx hb Z.2.2.1 Z.2.2.2 hbA hG.1.2.2 (vp_inL (by decide)) dL_law_781 ?_
  refine lv_topi (fun z2 ez2 => ?_)
  obtain rfl : z2 = sc 1 := ez2.trans (congrArg sc (by decide))
  refine g_ViG C hl.1 (fun _ h => h) hG (As := [.int (sc 1)]) (rest := []) (k_ears l E L f mx fx mn fn (sc 1)) my_X9_ears wd514 mx fx rfl rfl rfl (Nat.le_of_ble_eq_true rfl) ⟨Nat.le_of_ble_eq_true rfl, Nat.le_of_ble_eq_true rfl⟩ ⟨hc, hs⟩ dL_law_782 (fun r1 L1 f1 H locs hp1 hG => ?_)
  have hG := hG.swap
  refine lv_aload_n hx hb dL_law_785 rfl (lv_at hl 1 rfl) ?_
  refine lv_aload_n hx hb dL_law_786 rfl (lv_at hl 3 rfl) ?_
  refine lv_iload_n hx hb dL_law_787 rfl (lv_at hl 0 rfl) ?_
  refine lv_iconst (v := (1 : Int32)) hx hb dL_law_788 (by decide) ?_
  refine lv_iadd hx hb dL_law_789 ?_
  refine lv_topi (fun z3 ez3 => ?_)
  obtain rfl : z3 = (1 : Int32) := ez3.trans (by decide)
  refine va_sld hx hb Z.2.2.1 Z.2.2.2 hbA hG.1.2.2 (vp_inL (by decide)) dL_law_790 ?_
  refine lv_topi (fun z4 ez4 => ?_)
  obtain rfl : z4 = sc 1 := ez4.trans (congrArg sc (by decide))
  refine g_ViG C hl.1 (fun _ h => h) hG (As := [.int (sc 1)]) (rest := [.int r1]) (m_ears l E K k my fy am_lines af_lines am_has af_has (sc 1)) my_X10_ears wd518 my fy rfl rfl rfl (Nat.le_of_ble_eq_true rfl) ⟨Nat.le_of_ble_eq_true rfl, Nat.le_of_ble_eq_true rfl⟩ ⟨hc, hs⟩ dL_law_791 (fun r2 K1 k1 H locs hp2 hG => ?_)
  have hG := hG.swap
  refine lv_icmp_eq (tgt := 2118) hx hb dL_law_794 (by decide) (fun _ => ?_) (fun h => absurd (hp1.1.trans hp2.symm) h)
  exact law_tail Z hG.1.2.2 hc hs hl
set_option maxHeartbeats 4000000 in
set_option maxRecDepth 100000 in
theorem law_17 {p : Program} {l : Launch} {e : Env} {s : State} {m : MethodId} {below : List Frame} {meth : Method} {c : Code} {b : Nat} {sc : Nat → Int32} {E : gE} {L K : List Nat} {f k : gF} {x y : Nat} {H : Heap} {locs : List Loc} {cells slots : Nat} {ls : Array Slot} (Z : gLw E p s m meth c b 6 sc) (hG : gG E (fun q : Nat => s.heap.size ≤ q) L f K k s.heap H locs) (hX : gFresh E L f x) (hY : gFreshM E K k y) (hc : cells ≤ 600000) (hs : slots ≤ 7302249) (hl : lv_has ls 4 [(3, .int (0 : Int32)), (2, .ref y), (1, .ref x), (0, .ref b)]) : W p l e room_1 s m #[Value.ref b] below meth c H locs cells slots (lw_Z below #[Value.ref b] s) (F0 m 799 ls []) := by
  have C := Z.1
  have hx := C.1
  have hb := C.2.1
  have hbA : ¬ (fun q : Nat => s.heap.size ≤ q) b := Nat.not_le.mpr Z.2.2.2
  obtain ⟨xt, xn, xr, xi, xw, xs, xl, xc, xh, xf, xm, xb, xd, lf, ll, na, da, wv, iv, mx, fx, mt, ft, mb, fb, mn, fn, mr, fr, md, fd, ml, fl, mw, fw, mi, fi, mm, fm, gn, gd, hnd, wr, im⟩ := hX
  obtain ⟨ya, wc, my, fy, am_width, af_width, am_many, af_many, am_cells, af_cells, am_tape, af_tape, am_lines, af_lines, am_has, af_has, am_flight, af_flight, am_member, af_member, am_act, af_act, am_isKept, af_isKept, hw⟩ := hY
  refine lv_aload_n hx hb dL_law_799 rfl (lv_at hl 2 rfl) ?_
  refine g_ViG C hl.1 (fun _ h => h) hG (As := []) (rest := []) (k_loud l E L f mx fx mn fn) my_X9_loud wd522 mx fx rfl rfl rfl (Nat.le_of_ble_eq_true rfl) ⟨Nat.le_of_ble_eq_true rfl, Nat.le_of_ble_eq_true rfl⟩ ⟨hc, hs⟩ dL_law_800 (fun r1 L1 f1 H locs hp1 hG => ?_)
  have hG := hG.swap
  refine lv_aload_n hx hb dL_law_803 rfl (lv_at hl 1 rfl) ?_
  refine g_ViG C hl.1 (fun _ h => h) hG (As := []) (rest := [.int r1]) (m_loud l E K k my fy am_lines af_lines am_has af_has) my_X10_loud wd526 my fy rfl rfl rfl (Nat.le_of_ble_eq_true rfl) ⟨Nat.le_of_ble_eq_true rfl, Nat.le_of_ble_eq_true rfl⟩ ⟨hc, hs⟩ dL_law_804 (fun r2 K1 k1 H locs hp2 hG => ?_)
  have hG := hG.swap
  refine lv_icmp_eq (tgt := 2118) hx hb dL_law_807 (by decide) (fun _ => ?_) (fun h => absurd (hp1.1.trans hp2.symm) h)
  exact law_tail Z hG.1.2.2 hc hs hl
set_option maxHeartbeats 4000000 in
set_option maxRecDepth 100000 in
theorem law_18 {p : Program} {l : Launch} {e : Env} {s : State} {m : MethodId} {below : List Frame} {meth : Method} {c : Code} {b : Nat} {sc : Nat → Int32} {E : gE} {L K : List Nat} {f k : gF} {x y : Nat} {H : Heap} {locs : List Loc} {cells slots : Nat} {ls : Array Slot} (Z : gLw E p s m meth c b 6 sc) (hG : gG E (fun q : Nat => s.heap.size ≤ q) L f K k s.heap H locs) (hX : gFresh E L f x) (hY : gFreshM E K k y) (hc : cells ≤ 600000) (hs : slots ≤ 7302249) (hl : lv_has ls 4 [(3, .int (0 : Int32)), (2, .ref y), (1, .ref x), (0, .ref b)]) : W p l e room_1 s m #[Value.ref b] below meth c H locs cells slots (lw_Z below #[Value.ref b] s) (F0 m 812 ls []) := by
  have C := Z.1
  have hx := C.1
  have hb := C.2.1
  have hbA : ¬ (fun q : Nat => s.heap.size ≤ q) b := Nat.not_le.mpr Z.2.2.2
  obtain ⟨xt, xn, xr, xi, xw, xs, xl, xc, xh, xf, xm, xb, xd, lf, ll, na, da, wv, iv, mx, fx, mt, ft, mb, fb, mn, fn, mr, fr, md, fd, ml, fl, mw, fw, mi, fi, mm, fm, gn, gd, hnd, wr, im⟩ := hX
  obtain ⟨ya, wc, my, fy, am_width, af_width, am_many, af_many, am_cells, af_cells, am_tape, af_tape, am_lines, af_lines, am_has, af_has, am_flight, af_flight, am_member, af_member, am_act, af_act, am_isKept, af_isKept, hw⟩ := hY
  refine lv_aload_n hx hb dL_law_812 rfl (lv_at hl 2 rfl) ?_
  refine g_ViG C hl.1 (fun _ h => h) hG (As := []) (rest := []) (k_quiet l E L f mx fx mn fn) my_X9_quiet wd530 mx fx rfl rfl rfl (Nat.le_of_ble_eq_true rfl) ⟨Nat.le_of_ble_eq_true rfl, Nat.le_of_ble_eq_true rfl⟩ ⟨hc, hs⟩ dL_law_813 (fun r1 L1 f1 H locs hp1 hG => ?_)
  have hG := hG.swap
  refine lv_aload_n hx hb dL_law_816 rfl (lv_at hl 1 rfl) ?_
  refine g_ViG C hl.1 (fun _ h => h) hG (As := []) (rest := [.int r1]) (m_quiet l E K k my fy am_lines af_lines am_has af_has) my_X10_quiet wd534 my fy rfl rfl rfl (Nat.le_of_ble_eq_true rfl) ⟨Nat.le_of_ble_eq_true rfl, Nat.le_of_ble_eq_true rfl⟩ ⟨hc, hs⟩ dL_law_817 (fun r2 K1 k1 H locs hp2 hG => ?_)
  have hG := hG.swap
  refine lv_icmp_eq (tgt := 2118) hx hb dL_law_820 (by decide) (fun _ => ?_) (fun h => absurd (hp1.1.trans hp2.symm) h)
  exact law_tail Z hG.1.2.2 hc hs hl
set_option maxHeartbeats 4000000 in
set_option maxRecDepth 100000 in
theorem law_19 {p : Program} {l : Launch} {e : Env} {s : State} {m : MethodId} {below : List Frame} {meth : Method} {c : Code} {b : Nat} {sc : Nat → Int32} {E : gE} {L K : List Nat} {f k : gF} {x y : Nat} {H : Heap} {locs : List Loc} {cells slots : Nat} {ls : Array Slot} (Z : gLw E p s m meth c b 6 sc) (hG : gG E (fun q : Nat => s.heap.size ≤ q) L f K k s.heap H locs) (hX : gFresh E L f x) (hY : gFreshM E K k y) (hc : cells ≤ 600000) (hs : slots ≤ 7302249) (hl : lv_has ls 4 [(3, .int (0 : Int32)), (2, .ref y), (1, .ref x), (0, .ref b)]) : W p l e room_1 s m #[Value.ref b] below meth c H locs cells slots (lw_Z below #[Value.ref b] s) (F0 m 825 ls []) := by
  have C := Z.1
  have hx := C.1
  have hb := C.2.1
  have hbA : ¬ (fun q : Nat => s.heap.size ≤ q) b := Nat.not_le.mpr Z.2.2.2
  obtain ⟨xt, xn, xr, xi, xw, xs, xl, xc, xh, xf, xm, xb, xd, lf, ll, na, da, wv, iv, mx, fx, mt, ft, mb, fb, mn, fn, mr, fr, md, fd, ml, fl, mw, fw, mi, fi, mm, fm, gn, gd, hnd, wr, im⟩ := hX
  obtain ⟨ya, wc, my, fy, am_width, af_width, am_many, af_many, am_cells, af_cells, am_tape, af_tape, am_lines, af_lines, am_has, af_has, am_flight, af_flight, am_member, af_member, am_act, af_act, am_isKept, af_isKept, hw⟩ := hY
  refine lv_aload_n hx hb dL_law_825 rfl (lv_at hl 2 rfl) ?_
  refine g_ViG C hl.1 (fun _ h => h) hG (As := []) (rest := []) (k_served l E L f mx fx mn fn) my_X9_served wd538 mx fx rfl rfl rfl (Nat.le_of_ble_eq_true rfl) ⟨Nat.le_of_ble_eq_true rfl, Nat.le_of_ble_eq_true rfl⟩ ⟨hc, hs⟩ dL_law_826 (fun r1 L1 f1 H locs hp1 hG => ?_)
  have hG := hG.swap
  refine lv_aload_n hx hb dL_law_829 rfl (lv_at hl 1 rfl) ?_
  refine g_ViG C hl.1 (fun _ h => h) hG (As := []) (rest := [.int r1]) (m_served l E K k my fy am_lines af_lines am_has af_has) my_X10_served wd542 my fy rfl rfl rfl (Nat.le_of_ble_eq_true rfl) ⟨Nat.le_of_ble_eq_true rfl, Nat.le_of_ble_eq_true rfl⟩ ⟨hc, hs⟩ dL_law_830 (fun r2 K1 k1 H locs hp2 hG => ?_)
  have hG := hG.swap
  refine lv_icmp_eq (tgt := 2118) hx hb dL_law_833 (by decide) (fun _ => ?_) (fun h => absurd (hp1.1.trans hp2.symm) h)
  exact law_tail Z hG.1.2.2 hc hs hl
set_option maxHeartbeats 4000000 in
set_option maxRecDepth 100000 in
theorem law_20 {p : Program} {l : Launch} {e : Env} {s : State} {m : MethodId} {below : List Frame} {meth : Method} {c : Code} {b : Nat} {sc : Nat → Int32} {E : gE} {L K : List Nat} {f k : gF} {x y : Nat} {H : Heap} {locs : List Loc} {cells slots : Nat} {ls : Array Slot} (Z : gLw E p s m meth c b 6 sc) (hG : gG E (fun q : Nat => s.heap.size ≤ q) L f K k s.heap H locs) (hX : gFresh E L f x) (hY : gFreshM E K k y) (hc : cells ≤ 600000) (hs : slots ≤ 7302249) (hl : lv_has ls 4 [(3, .int (0 : Int32)), (2, .ref y), (1, .ref x), (0, .ref b)]) : W p l e room_1 s m #[Value.ref b] below meth c H locs cells slots (lw_Z below #[Value.ref b] s) (F0 m 838 ls []) := by
  have C := Z.1
  have hx := C.1
  have hb := C.2.1
  have hbA : ¬ (fun q : Nat => s.heap.size ≤ q) b := Nat.not_le.mpr Z.2.2.2
  obtain ⟨xt, xn, xr, xi, xw, xs, xl, xc, xh, xf, xm, xb, xd, lf, ll, na, da, wv, iv, mx, fx, mt, ft, mb, fb, mn, fn, mr, fr, md, fd, ml, fl, mw, fw, mi, fi, mm, fm, gn, gd, hnd, wr, im⟩ := hX
  obtain ⟨ya, wc, my, fy, am_width, af_width, am_many, af_many, am_cells, af_cells, am_tape, af_tape, am_lines, af_lines, am_has, af_has, am_flight, af_flight, am_member, af_member, am_act, af_act, am_isKept, af_isKept, hw⟩ := hY
  refine lv_aload_n hx hb dL_law_838 rfl (lv_at hl 2 rfl) ?_
  refine g_ViG C hl.1 (fun _ h => h) hG (As := []) (rest := []) (k_income l E L f mx fx mn fn) my_X9_income wd546 mx fx rfl rfl rfl (Nat.le_of_ble_eq_true rfl) ⟨Nat.le_of_ble_eq_true rfl, Nat.le_of_ble_eq_true rfl⟩ ⟨hc, hs⟩ dL_law_839 (fun r1 L1 f1 H locs hp1 hG => ?_)
  have hG := hG.swap
  refine lv_aload_n hx hb dL_law_842 rfl (lv_at hl 1 rfl) ?_
  refine g_ViG C hl.1 (fun _ h => h) hG (As := []) (rest := [.int r1]) (m_income l E K k my fy am_lines af_lines am_has af_has) my_X10_income wd550 my fy rfl rfl rfl (Nat.le_of_ble_eq_true rfl) ⟨Nat.le_of_ble_eq_true rfl, Nat.le_of_ble_eq_true rfl⟩ ⟨hc, hs⟩ dL_law_843 (fun r2 K1 k1 H locs hp2 hG => ?_)
  have hG := hG.swap
  refine lv_icmp_eq (tgt := 2118) hx hb dL_law_846 (by decide) (fun _ => ?_) (fun h => absurd (hp1.1.trans hp2.symm) h)
  exact law_tail Z hG.1.2.2 hc hs hl
set_option maxHeartbeats 4000000 in
set_option maxRecDepth 100000 in
theorem law_21 {p : Program} {l : Launch} {e : Env} {s : State} {m : MethodId} {below : List Frame} {meth : Method} {c : Code} {b : Nat} {sc : Nat → Int32} {E : gE} {L K : List Nat} {f k : gF} {x y : Nat} {H : Heap} {locs : List Loc} {cells slots : Nat} {ls : Array Slot} (Z : gLw E p s m meth c b 6 sc) (hG : gG E (fun q : Nat => s.heap.size ≤ q) L f K k s.heap H locs) (hX : gFresh E L f x) (hY : gFreshM E K k y) (hc : cells ≤ 600000) (hs : slots ≤ 7302249) (hl : lv_has ls 4 [(3, .int (0 : Int32)), (2, .ref y), (1, .ref x), (0, .ref b)]) : W p l e room_1 s m #[Value.ref b] below meth c H locs cells slots (lw_Z below #[Value.ref b] s) (F0 m 851 ls []) := by
  have C := Z.1
  have hx := C.1
  have hb := C.2.1
  have hbA : ¬ (fun q : Nat => s.heap.size ≤ q) b := Nat.not_le.mpr Z.2.2.2
  obtain ⟨xt, xn, xr, xi, xw, xs, xl, xc, xh, xf, xm, xb, xd, lf, ll, na, da, wv, iv, mx, fx, mt, ft, mb, fb, mn, fn, mr, fr, md, fd, ml, fl, mw, fw, mi, fi, mm, fm, gn, gd, hnd, wr, im⟩ := hX
  obtain ⟨ya, wc, my, fy, am_width, af_width, am_many, af_many, am_cells, af_cells, am_tape, af_tape, am_lines, af_lines, am_has, af_has, am_flight, af_flight, am_member, af_member, am_act, af_act, am_isKept, af_isKept, hw⟩ := hY
  refine lv_aload_n hx hb dL_law_851 rfl (lv_at hl 2 rfl) ?_
  refine g_ViG C hl.1 (fun _ h => h) hG (As := []) (rest := []) (k_unpaid l E L f mx fx mn fn) my_X9_unpaid wd554 mx fx rfl rfl rfl (Nat.le_of_ble_eq_true rfl) ⟨Nat.le_of_ble_eq_true rfl, Nat.le_of_ble_eq_true rfl⟩ ⟨hc, hs⟩ dL_law_852 (fun r1 L1 f1 H locs hp1 hG => ?_)
  have hG := hG.swap
  refine lv_aload_n hx hb dL_law_855 rfl (lv_at hl 1 rfl) ?_
  refine g_ViG C hl.1 (fun _ h => h) hG (As := []) (rest := [.int r1]) (m_unpaid l E K k my fy am_lines af_lines am_has af_has) my_X10_unpaid wd558 my fy rfl rfl rfl (Nat.le_of_ble_eq_true rfl) ⟨Nat.le_of_ble_eq_true rfl, Nat.le_of_ble_eq_true rfl⟩ ⟨hc, hs⟩ dL_law_856 (fun r2 K1 k1 H locs hp2 hG => ?_)
  have hG := hG.swap
  refine lv_icmp_eq (tgt := 2118) hx hb dL_law_859 (by decide) (fun _ => ?_) (fun h => absurd (hp1.1.trans hp2.symm) h)
  exact law_tail Z hG.1.2.2 hc hs hl
set_option maxHeartbeats 4000000 in
set_option maxRecDepth 100000 in
theorem law_22 {p : Program} {l : Launch} {e : Env} {s : State} {m : MethodId} {below : List Frame} {meth : Method} {c : Code} {b : Nat} {sc : Nat → Int32} {E : gE} {L K : List Nat} {f k : gF} {x y : Nat} {H : Heap} {locs : List Loc} {cells slots : Nat} {ls : Array Slot} (Z : gLw E p s m meth c b 6 sc) (hG : gG E (fun q : Nat => s.heap.size ≤ q) L f K k s.heap H locs) (hX : gFresh E L f x) (hY : gFreshM E K k y) (hc : cells ≤ 600000) (hs : slots ≤ 7302249) (hl : lv_has ls 4 [(3, .int (0 : Int32)), (2, .ref y), (1, .ref x), (0, .ref b)]) : W p l e room_1 s m #[Value.ref b] below meth c H locs cells slots (lw_Z below #[Value.ref b] s) (F0 m 864 ls []) := by
  have C := Z.1
  have hx := C.1
  have hb := C.2.1
  have hbA : ¬ (fun q : Nat => s.heap.size ≤ q) b := Nat.not_le.mpr Z.2.2.2
  obtain ⟨xt, xn, xr, xi, xw, xs, xl, xc, xh, xf, xm, xb, xd, lf, ll, na, da, wv, iv, mx, fx, mt, ft, mb, fb, mn, fn, mr, fr, md, fd, ml, fl, mw, fw, mi, fi, mm, fm, gn, gd, hnd, wr, im⟩ := hX
  obtain ⟨ya, wc, my, fy, am_width, af_width, am_many, af_many, am_cells, af_cells, am_tape, af_tape, am_lines, af_lines, am_has, af_has, am_flight, af_flight, am_member, af_member, am_act, af_act, am_isKept, af_isKept, hw⟩ := hY
  refine lv_aload_n hx hb dL_law_864 rfl (lv_at hl 2 rfl) ?_
  refine g_ViG C hl.1 (fun _ h => h) hG (As := []) (rest := []) (k_first l E L f mx fx mn fn) my_X9_first wd562 mx fx rfl rfl rfl (Nat.le_of_ble_eq_true rfl) ⟨Nat.le_of_ble_eq_true rfl, Nat.le_of_ble_eq_true rfl⟩ ⟨hc, hs⟩ dL_law_865 (fun r1 L1 f1 H locs hp1 hG => ?_)
  have hG := hG.swap
  refine lv_aload_n hx hb dL_law_868 rfl (lv_at hl 1 rfl) ?_
  refine g_ViG C hl.1 (fun _ h => h) hG (As := []) (rest := [.int r1]) (m_first l E K k my fy am_lines af_lines am_has af_has) my_X10_first wd566 my fy rfl rfl rfl (Nat.le_of_ble_eq_true rfl) ⟨Nat.le_of_ble_eq_true rfl, Nat.le_of_ble_eq_true rfl⟩ ⟨hc, hs⟩ dL_law_869 (fun r2 K1 k1 H locs hp2 hG => ?_)
  have hG := hG.swap
  refine lv_icmp_eq (tgt := 2118) hx hb dL_law_872 (by decide) (fun _ => ?_) (fun h => absurd (hp1.1.trans hp2.symm) h)
  exact law_tail Z hG.1.2.2 hc hs hl
set_option maxHeartbeats 4000000 in
set_option maxRecDepth 100000 in
theorem law_23 {p : Program} {l : Launch} {e : Env} {s : State} {m : MethodId} {below : List Frame} {meth : Method} {c : Code} {b : Nat} {sc : Nat → Int32} {E : gE} {L K : List Nat} {f k : gF} {x y : Nat} {H : Heap} {locs : List Loc} {cells slots : Nat} {ls : Array Slot} (Z : gLw E p s m meth c b 6 sc) (hG : gG E (fun q : Nat => s.heap.size ≤ q) L f K k s.heap H locs) (hX : gFresh E L f x) (hY : gFreshM E K k y) (hc : cells ≤ 600000) (hs : slots ≤ 7302249) (hl : lv_has ls 4 [(3, .int (0 : Int32)), (2, .ref y), (1, .ref x), (0, .ref b)]) : W p l e room_1 s m #[Value.ref b] below meth c H locs cells slots (lw_Z below #[Value.ref b] s) (F0 m 877 ls []) := by
  have C := Z.1
  have hx := C.1
  have hb := C.2.1
  have hbA : ¬ (fun q : Nat => s.heap.size ≤ q) b := Nat.not_le.mpr Z.2.2.2
  obtain ⟨xt, xn, xr, xi, xw, xs, xl, xc, xh, xf, xm, xb, xd, lf, ll, na, da, wv, iv, mx, fx, mt, ft, mb, fb, mn, fn, mr, fr, md, fd, ml, fl, mw, fw, mi, fi, mm, fm, gn, gd, hnd, wr, im⟩ := hX
  obtain ⟨ya, wc, my, fy, am_width, af_width, am_many, af_many, am_cells, af_cells, am_tape, af_tape, am_lines, af_lines, am_has, af_has, am_flight, af_flight, am_member, af_member, am_act, af_act, am_isKept, af_isKept, hw⟩ := hY
  refine lv_aload_n hx hb dL_law_877 rfl (lv_at hl 2 rfl) ?_
  refine g_ViG C hl.1 (fun _ h => h) hG (As := []) (rest := []) (k_lacks l E L f mx fx mn fn) my_X9_lacks wd570 mx fx rfl rfl rfl (Nat.le_of_ble_eq_true rfl) ⟨Nat.le_of_ble_eq_true rfl, Nat.le_of_ble_eq_true rfl⟩ ⟨hc, hs⟩ dL_law_878 (fun r1 L1 f1 H locs hp1 hG => ?_)
  have hG := hG.swap
  refine lv_aload_n hx hb dL_law_881 rfl (lv_at hl 1 rfl) ?_
  refine g_ViG C hl.1 (fun _ h => h) hG (As := []) (rest := [.int r1]) (m_lacks l E K k my fy am_lines af_lines am_has af_has) my_X10_lacks wd574 my fy rfl rfl rfl (Nat.le_of_ble_eq_true rfl) ⟨Nat.le_of_ble_eq_true rfl, Nat.le_of_ble_eq_true rfl⟩ ⟨hc, hs⟩ dL_law_882 (fun r2 K1 k1 H locs hp2 hG => ?_)
  have hG := hG.swap
  refine lv_icmp_eq (tgt := 2118) hx hb dL_law_885 (by decide) (fun _ => ?_) (fun h => absurd (hp1.1.trans hp2.symm) h)
  exact law_tail Z hG.1.2.2 hc hs hl
set_option maxHeartbeats 4000000 in
set_option maxRecDepth 100000 in
theorem law_24 {p : Program} {l : Launch} {e : Env} {s : State} {m : MethodId} {below : List Frame} {meth : Method} {c : Code} {b : Nat} {sc : Nat → Int32} {E : gE} {L K : List Nat} {f k : gF} {x y : Nat} {H : Heap} {locs : List Loc} {cells slots : Nat} {ls : Array Slot} (Z : gLw E p s m meth c b 6 sc) (hG : gG E (fun q : Nat => s.heap.size ≤ q) L f K k s.heap H locs) (hX : gFresh E L f x) (hY : gFreshM E K k y) (hc : cells ≤ 600000) (hs : slots ≤ 7302249) (hl : lv_has ls 4 [(3, .int (0 : Int32)), (2, .ref y), (1, .ref x), (0, .ref b)]) : W p l e room_1 s m #[Value.ref b] below meth c H locs cells slots (lw_Z below #[Value.ref b] s) (F0 m 890 ls []) := by
  have C := Z.1
  have hx := C.1
  have hb := C.2.1
  have hbA : ¬ (fun q : Nat => s.heap.size ≤ q) b := Nat.not_le.mpr Z.2.2.2
  obtain ⟨xt, xn, xr, xi, xw, xs, xl, xc, xh, xf, xm, xb, xd, lf, ll, na, da, wv, iv, mx, fx, mt, ft, mb, fb, mn, fn, mr, fr, md, fd, ml, fl, mw, fw, mi, fi, mm, fm, gn, gd, hnd, wr, im⟩ := hX
  obtain ⟨ya, wc, my, fy, am_width, af_width, am_many, af_many, am_cells, af_cells, am_tape, af_tape, am_lines, af_lines, am_has, af_has, am_flight, af_flight, am_member, af_member, am_act, af_act, am_isKept, af_isKept, hw⟩ := hY
  refine lv_aload_n hx hb dL_law_890 rfl (lv_at hl 2 rfl) ?_
  refine lv_aload_n hx hb dL_law_891 rfl (lv_at hl 3 rfl) ?_
  refine lv_iload_n hx hb dL_law_892 rfl (lv_at hl 0 rfl) ?_
  refine lv_iconst (v := (1 : Int32)) hx hb dL_law_893 (by decide) ?_
  refine lv_iadd hx hb dL_law_894 ?_
  refine lv_topi (fun z1 ez1 => ?_)
  obtain rfl : z1 = (1 : Int32) := ez1.trans (by decide)
  refine va_sld hx hb Z.2.2.1 Z.2.2.2 hbA hG.1.2.2 (vp_inL (by decide)) dL_law_895 ?_
  refine lv_topi (fun z2 ez2 => ?_)
  obtain rfl : z2 = sc 1 := ez2.trans (congrArg sc (by decide))
  refine g_ViG C hl.1 (fun _ h => h) hG (As := [.int (sc 1)]) (rest := []) (k_near l E L f mx fx mn fn (sc 1)) my_X9_near wd578 mx fx rfl rfl rfl (Nat.le_of_ble_eq_true rfl) ⟨Nat.le_of_ble_eq_true rfl, Nat.le_of_ble_eq_true rfl⟩ ⟨hc, hs⟩ dL_law_896 (fun r1 L1 f1 H locs hp1 hG => ?_)
  have hG := hG.swap
  refine lv_aload_n hx hb dL_law_899 rfl (lv_at hl 1 rfl) ?_
  refine lv_aload_n hx hb dL_law_900 rfl (lv_at hl 3 rfl) ?_
  refine lv_iload_n hx hb dL_law_901 rfl (lv_at hl 0 rfl) ?_
  refine lv_iconst (v := (1 : Int32)) hx hb dL_law_902 (by decide) ?_
  refine lv_iadd hx hb dL_law_903 ?_
  refine lv_topi (fun z3 ez3 => ?_)
  obtain rfl : z3 = (1 : Int32) := ez3.trans (by decide)
  refine va_sld hx hb Z.2.2.1 Z.2.2.2 hbA hG.1.2.2 (vp_inL (by decide)) dL_law_904 ?_
  refine lv_topi (fun z4 ez4 => ?_)
  obtain rfl : z4 = sc 1 := ez4.trans (congrArg sc (by decide))
  refine g_ViG C hl.1 (fun _ h => h) hG (As := [.int (sc 1)]) (rest := [.int r1]) (m_near l E K k my fy am_lines af_lines am_has af_has (sc 1)) my_X10_near wd582 my fy rfl rfl rfl (Nat.le_of_ble_eq_true rfl) ⟨Nat.le_of_ble_eq_true rfl, Nat.le_of_ble_eq_true rfl⟩ ⟨hc, hs⟩ dL_law_905 (fun r2 K1 k1 H locs hp2 hG => ?_)
  have hG := hG.swap
  refine lv_icmp_eq (tgt := 2118) hx hb dL_law_908 (by decide) (fun _ => ?_) (fun h => absurd (hp1.1.trans hp2.symm) h)
  exact law_tail Z hG.1.2.2 hc hs hl
set_option maxHeartbeats 4000000 in
set_option maxRecDepth 100000 in
theorem law_25 {p : Program} {l : Launch} {e : Env} {s : State} {m : MethodId} {below : List Frame} {meth : Method} {c : Code} {b : Nat} {sc : Nat → Int32} {E : gE} {L K : List Nat} {f k : gF} {x y : Nat} {H : Heap} {locs : List Loc} {cells slots : Nat} {ls : Array Slot} (Z : gLw E p s m meth c b 6 sc) (hG : gG E (fun q : Nat => s.heap.size ≤ q) L f K k s.heap H locs) (hX : gFresh E L f x) (hY : gFreshM E K k y) (hc : cells ≤ 600000) (hs : slots ≤ 7302249) (hl : lv_has ls 4 [(3, .int (0 : Int32)), (2, .ref y), (1, .ref x), (0, .ref b)]) : W p l e room_1 s m #[Value.ref b] below meth c H locs cells slots (lw_Z below #[Value.ref b] s) (F0 m 913 ls []) := by
  have C := Z.1
  have hx := C.1
  have hb := C.2.1
  have hbA : ¬ (fun q : Nat => s.heap.size ≤ q) b := Nat.not_le.mpr Z.2.2.2
  obtain ⟨xt, xn, xr, xi, xw, xs, xl, xc, xh, xf, xm, xb, xd, lf, ll, na, da, wv, iv, mx, fx, mt, ft, mb, fb, mn, fn, mr, fr, md, fd, ml, fl, mw, fw, mi, fi, mm, fm, gn, gd, hnd, wr, im⟩ := hX
  obtain ⟨ya, wc, my, fy, am_width, af_width, am_many, af_many, am_cells, af_cells, am_tape, af_tape, am_lines, af_lines, am_has, af_has, am_flight, af_flight, am_member, af_member, am_act, af_act, am_isKept, af_isKept, hw⟩ := hY
  refine lv_aload_n hx hb dL_law_913 rfl (lv_at hl 2 rfl) ?_
  refine g_ViG C hl.1 (fun _ h => h) hG (As := []) (rest := []) (k_lone l E L f mx fx mn fn) my_X9_lone wd586 mx fx rfl rfl rfl (Nat.le_of_ble_eq_true rfl) ⟨Nat.le_of_ble_eq_true rfl, Nat.le_of_ble_eq_true rfl⟩ ⟨hc, hs⟩ dL_law_914 (fun r1 L1 f1 H locs hp1 hG => ?_)
  have hG := hG.swap
  refine lv_aload_n hx hb dL_law_917 rfl (lv_at hl 1 rfl) ?_
  refine g_ViG C hl.1 (fun _ h => h) hG (As := []) (rest := [.int r1]) (m_lone l E K k my fy am_lines af_lines am_has af_has) my_X10_lone wd590 my fy rfl rfl rfl (Nat.le_of_ble_eq_true rfl) ⟨Nat.le_of_ble_eq_true rfl, Nat.le_of_ble_eq_true rfl⟩ ⟨hc, hs⟩ dL_law_918 (fun r2 K1 k1 H locs hp2 hG => ?_)
  have hG := hG.swap
  refine lv_icmp_eq (tgt := 2118) hx hb dL_law_921 (by decide) (fun _ => ?_) (fun h => absurd (hp1.1.trans hp2.symm) h)
  exact law_tail Z hG.1.2.2 hc hs hl
set_option maxHeartbeats 4000000 in
set_option maxRecDepth 100000 in
theorem law_26 {p : Program} {l : Launch} {e : Env} {s : State} {m : MethodId} {below : List Frame} {meth : Method} {c : Code} {b : Nat} {sc : Nat → Int32} {E : gE} {L K : List Nat} {f k : gF} {x y : Nat} {H : Heap} {locs : List Loc} {cells slots : Nat} {ls : Array Slot} (Z : gLw E p s m meth c b 6 sc) (hG : gG E (fun q : Nat => s.heap.size ≤ q) L f K k s.heap H locs) (hX : gFresh E L f x) (hY : gFreshM E K k y) (hc : cells ≤ 600000) (hs : slots ≤ 7302249) (hl : lv_has ls 4 [(3, .int (0 : Int32)), (2, .ref y), (1, .ref x), (0, .ref b)]) : W p l e room_1 s m #[Value.ref b] below meth c H locs cells slots (lw_Z below #[Value.ref b] s) (F0 m 926 ls []) := by
  have C := Z.1
  have hx := C.1
  have hb := C.2.1
  have hbA : ¬ (fun q : Nat => s.heap.size ≤ q) b := Nat.not_le.mpr Z.2.2.2
  obtain ⟨xt, xn, xr, xi, xw, xs, xl, xc, xh, xf, xm, xb, xd, lf, ll, na, da, wv, iv, mx, fx, mt, ft, mb, fb, mn, fn, mr, fr, md, fd, ml, fl, mw, fw, mi, fi, mm, fm, gn, gd, hnd, wr, im⟩ := hX
  obtain ⟨ya, wc, my, fy, am_width, af_width, am_many, af_many, am_cells, af_cells, am_tape, af_tape, am_lines, af_lines, am_has, af_has, am_flight, af_flight, am_member, af_member, am_act, af_act, am_isKept, af_isKept, hw⟩ := hY
  refine lv_aload_n hx hb dL_law_926 rfl (lv_at hl 2 rfl) ?_
  refine lv_aload_n hx hb dL_law_927 rfl (lv_at hl 3 rfl) ?_
  refine lv_iload_n hx hb dL_law_928 rfl (lv_at hl 0 rfl) ?_
  refine lv_iconst (v := (1 : Int32)) hx hb dL_law_929 (by decide) ?_
  refine lv_iadd hx hb dL_law_930 ?_
  refine lv_topi (fun z1 ez1 => ?_)
  obtain rfl : z1 = (1 : Int32) := ez1.trans (by decide)
  refine va_sld hx hb Z.2.2.1 Z.2.2.2 hbA hG.1.2.2 (vp_inL (by decide)) dL_law_931 ?_
  refine lv_topi (fun z2 ez2 => ?_)
  obtain rfl : z2 = sc 1 := ez2.trans (congrArg sc (by decide))
  refine lv_aload_n hx hb dL_law_932 rfl (lv_at hl 3 rfl) ?_
  refine lv_iload_n hx hb dL_law_933 rfl (lv_at hl 0 rfl) ?_
  refine lv_iconst (v := (2 : Int32)) hx hb dL_law_934 (by decide) ?_
  refine lv_iadd hx hb dL_law_935 ?_
  refine lv_topi (fun z3 ez3 => ?_)
  obtain rfl : z3 = (2 : Int32) := ez3.trans (by decide)
  refine va_sld hx hb Z.2.2.1 Z.2.2.2 hbA hG.1.2.2 (vp_inL (by decide)) dL_law_936 ?_
  refine lv_topi (fun z4 ez4 => ?_)
  obtain rfl : z4 = sc 2 := ez4.trans (congrArg sc (by decide))
  refine g_ViG C hl.1 (fun _ h => h) hG (As := [.int (sc 1), .int (sc 2)]) (rest := []) (k_meets l E L f mx fx mn fn (sc 1) (sc 2)) my_X9_meets wd594 mx fx rfl rfl rfl (Nat.le_of_ble_eq_true rfl) ⟨Nat.le_of_ble_eq_true rfl, Nat.le_of_ble_eq_true rfl⟩ ⟨hc, hs⟩ dL_law_937 (fun r1 L1 f1 H locs hp1 hG => ?_)
  have hG := hG.swap
  refine lv_aload_n hx hb dL_law_940 rfl (lv_at hl 1 rfl) ?_
  refine lv_aload_n hx hb dL_law_941 rfl (lv_at hl 3 rfl) ?_
  refine lv_iload_n hx hb dL_law_942 rfl (lv_at hl 0 rfl) ?_
  refine lv_iconst (v := (1 : Int32)) hx hb dL_law_943 (by decide) ?_
  refine lv_iadd hx hb dL_law_944 ?_
  refine lv_topi (fun z5 ez5 => ?_)
  obtain rfl : z5 = (1 : Int32) := ez5.trans (by decide)
  refine va_sld hx hb Z.2.2.1 Z.2.2.2 hbA hG.1.2.2 (vp_inL (by decide)) dL_law_945 ?_
  refine lv_topi (fun z6 ez6 => ?_)
  obtain rfl : z6 = sc 1 := ez6.trans (congrArg sc (by decide))
  refine lv_aload_n hx hb dL_law_946 rfl (lv_at hl 3 rfl) ?_
  refine lv_iload_n hx hb dL_law_947 rfl (lv_at hl 0 rfl) ?_
  refine lv_iconst (v := (2 : Int32)) hx hb dL_law_948 (by decide) ?_
  refine lv_iadd hx hb dL_law_949 ?_
  refine lv_topi (fun z7 ez7 => ?_)
  obtain rfl : z7 = (2 : Int32) := ez7.trans (by decide)
  refine va_sld hx hb Z.2.2.1 Z.2.2.2 hbA hG.1.2.2 (vp_inL (by decide)) dL_law_950 ?_
  refine lv_topi (fun z8 ez8 => ?_)
  obtain rfl : z8 = sc 2 := ez8.trans (congrArg sc (by decide))
  refine g_ViG C hl.1 (fun _ h => h) hG (As := [.int (sc 1), .int (sc 2)]) (rest := [.int r1]) (m_meets l E K k my fy am_lines af_lines am_has af_has (sc 1) (sc 2)) my_X10_meets wd598 my fy rfl rfl rfl (Nat.le_of_ble_eq_true rfl) ⟨Nat.le_of_ble_eq_true rfl, Nat.le_of_ble_eq_true rfl⟩ ⟨hc, hs⟩ dL_law_951 (fun r2 K1 k1 H locs hp2 hG => ?_)
  have hG := hG.swap
  refine lv_icmp_eq (tgt := 2118) hx hb dL_law_954 (by decide) (fun _ => ?_) (fun h => absurd (hp1.1.trans hp2.symm) h)
  exact law_tail Z hG.1.2.2 hc hs hl
set_option maxHeartbeats 4000000 in
set_option maxRecDepth 100000 in
theorem law_27 {p : Program} {l : Launch} {e : Env} {s : State} {m : MethodId} {below : List Frame} {meth : Method} {c : Code} {b : Nat} {sc : Nat → Int32} {E : gE} {L K : List Nat} {f k : gF} {x y : Nat} {H : Heap} {locs : List Loc} {cells slots : Nat} {ls : Array Slot} (Z : gLw E p s m meth c b 6 sc) (hG : gG E (fun q : Nat => s.heap.size ≤ q) L f K k s.heap H locs) (hX : gFresh E L f x) (hY : gFreshM E K k y) (hc : cells ≤ 600000) (hs : slots ≤ 7302249) (hl : lv_has ls 4 [(3, .int (0 : Int32)), (2, .ref y), (1, .ref x), (0, .ref b)]) : W p l e room_1 s m #[Value.ref b] below meth c H locs cells slots (lw_Z below #[Value.ref b] s) (F0 m 959 ls []) := by
  have C := Z.1
  have hx := C.1
  have hb := C.2.1
  have hbA : ¬ (fun q : Nat => s.heap.size ≤ q) b := Nat.not_le.mpr Z.2.2.2
  obtain ⟨xt, xn, xr, xi, xw, xs, xl, xc, xh, xf, xm, xb, xd, lf, ll, na, da, wv, iv, mx, fx, mt, ft, mb, fb, mn, fn, mr, fr, md, fd, ml, fl, mw, fw, mi, fi, mm, fm, gn, gd, hnd, wr, im⟩ := hX
  obtain ⟨ya, wc, my, fy, am_width, af_width, am_many, af_many, am_cells, af_cells, am_tape, af_tape, am_lines, af_lines, am_has, af_has, am_flight, af_flight, am_member, af_member, am_act, af_act, am_isKept, af_isKept, hw⟩ := hY
  refine lv_aload_n hx hb dL_law_959 rfl (lv_at hl 2 rfl) ?_
  refine g_ViG C hl.1 (fun _ h => h) hG (As := []) (rest := []) (k_spare l E L f mx fx mn fn) my_X9_spare wd602 mx fx rfl rfl rfl (Nat.le_of_ble_eq_true rfl) ⟨Nat.le_of_ble_eq_true rfl, Nat.le_of_ble_eq_true rfl⟩ ⟨hc, hs⟩ dL_law_960 (fun r1 L1 f1 H locs hp1 hG => ?_)
  have hG := hG.swap
  refine lv_aload_n hx hb dL_law_963 rfl (lv_at hl 1 rfl) ?_
  refine g_ViG C hl.1 (fun _ h => h) hG (As := []) (rest := [.int r1]) (m_spare l E K k my fy am_lines af_lines am_has af_has) my_X10_spare wd606 my fy rfl rfl rfl (Nat.le_of_ble_eq_true rfl) ⟨Nat.le_of_ble_eq_true rfl, Nat.le_of_ble_eq_true rfl⟩ ⟨hc, hs⟩ dL_law_964 (fun r2 K1 k1 H locs hp2 hG => ?_)
  have hG := hG.swap
  refine lv_icmp_eq (tgt := 2118) hx hb dL_law_967 (by decide) (fun _ => ?_) (fun h => absurd (hp1.1.trans hp2.symm) h)
  exact law_tail Z hG.1.2.2 hc hs hl
set_option maxHeartbeats 4000000 in
set_option maxRecDepth 100000 in
theorem law_28 {p : Program} {l : Launch} {e : Env} {s : State} {m : MethodId} {below : List Frame} {meth : Method} {c : Code} {b : Nat} {sc : Nat → Int32} {E : gE} {L K : List Nat} {f k : gF} {x y : Nat} {H : Heap} {locs : List Loc} {cells slots : Nat} {ls : Array Slot} (Z : gLw E p s m meth c b 6 sc) (hG : gG E (fun q : Nat => s.heap.size ≤ q) L f K k s.heap H locs) (hX : gFresh E L f x) (hY : gFreshM E K k y) (hc : cells ≤ 600000) (hs : slots ≤ 7302249) (hl : lv_has ls 4 [(3, .int (0 : Int32)), (2, .ref y), (1, .ref x), (0, .ref b)]) : W p l e room_1 s m #[Value.ref b] below meth c H locs cells slots (lw_Z below #[Value.ref b] s) (F0 m 972 ls []) := by
  have C := Z.1
  have hx := C.1
  have hb := C.2.1
  have hbA : ¬ (fun q : Nat => s.heap.size ≤ q) b := Nat.not_le.mpr Z.2.2.2
  obtain ⟨xt, xn, xr, xi, xw, xs, xl, xc, xh, xf, xm, xb, xd, lf, ll, na, da, wv, iv, mx, fx, mt, ft, mb, fb, mn, fn, mr, fr, md, fd, ml, fl, mw, fw, mi, fi, mm, fm, gn, gd, hnd, wr, im⟩ := hX
  obtain ⟨ya, wc, my, fy, am_width, af_width, am_many, af_many, am_cells, af_cells, am_tape, af_tape, am_lines, af_lines, am_has, af_has, am_flight, af_flight, am_member, af_member, am_act, af_act, am_isKept, af_isKept, hw⟩ := hY
  refine lv_aload_n hx hb dL_law_972 rfl (lv_at hl 2 rfl) ?_
  refine lv_aload_n hx hb dL_law_973 rfl (lv_at hl 3 rfl) ?_
  refine lv_iload_n hx hb dL_law_974 rfl (lv_at hl 0 rfl) ?_
  refine lv_iconst (v := (1 : Int32)) hx hb dL_law_975 (by decide) ?_
  refine lv_iadd hx hb dL_law_976 ?_
  refine lv_topi (fun z1 ez1 => ?_)
  obtain rfl : z1 = (1 : Int32) := ez1.trans (by decide)
  refine va_sld hx hb Z.2.2.1 Z.2.2.2 hbA hG.1.2.2 (vp_inL (by decide)) dL_law_977 ?_
  refine lv_topi (fun z2 ez2 => ?_)
  obtain rfl : z2 = sc 1 := ez2.trans (congrArg sc (by decide))
  refine g_ViG C hl.1 (fun _ h => h) hG (As := [.int (sc 1)]) (rest := []) (k_calls l E L f mx fx mn fn (sc 1)) my_X9_calls wd610 mx fx rfl rfl rfl (Nat.le_of_ble_eq_true rfl) ⟨Nat.le_of_ble_eq_true rfl, Nat.le_of_ble_eq_true rfl⟩ ⟨hc, hs⟩ dL_law_978 (fun r1 L1 f1 H locs hp1 hG => ?_)
  have hG := hG.swap
  refine lv_aload_n hx hb dL_law_981 rfl (lv_at hl 1 rfl) ?_
  refine lv_aload_n hx hb dL_law_982 rfl (lv_at hl 3 rfl) ?_
  refine lv_iload_n hx hb dL_law_983 rfl (lv_at hl 0 rfl) ?_
  refine lv_iconst (v := (1 : Int32)) hx hb dL_law_984 (by decide) ?_
  refine lv_iadd hx hb dL_law_985 ?_
  refine lv_topi (fun z3 ez3 => ?_)
  obtain rfl : z3 = (1 : Int32) := ez3.trans (by decide)
  refine va_sld hx hb Z.2.2.1 Z.2.2.2 hbA hG.1.2.2 (vp_inL (by decide)) dL_law_986 ?_
  refine lv_topi (fun z4 ez4 => ?_)
  obtain rfl : z4 = sc 1 := ez4.trans (congrArg sc (by decide))
  refine g_ViG C hl.1 (fun _ h => h) hG (As := [.int (sc 1)]) (rest := [.int r1]) (m_calls l E K k my fy am_lines af_lines am_has af_has (sc 1)) my_X10_calls wd614 my fy rfl rfl rfl (Nat.le_of_ble_eq_true rfl) ⟨Nat.le_of_ble_eq_true rfl, Nat.le_of_ble_eq_true rfl⟩ ⟨hc, hs⟩ dL_law_987 (fun r2 K1 k1 H locs hp2 hG => ?_)
  have hG := hG.swap
  refine lv_icmp_eq (tgt := 2118) hx hb dL_law_990 (by decide) (fun _ => ?_) (fun h => absurd (hp1.1.trans hp2.symm) h)
  exact law_tail Z hG.1.2.2 hc hs hl
set_option maxHeartbeats 4000000 in
set_option maxRecDepth 100000 in
theorem law_29 {p : Program} {l : Launch} {e : Env} {s : State} {m : MethodId} {below : List Frame} {meth : Method} {c : Code} {b : Nat} {sc : Nat → Int32} {E : gE} {L K : List Nat} {f k : gF} {x y : Nat} {H : Heap} {locs : List Loc} {cells slots : Nat} {ls : Array Slot} (Z : gLw E p s m meth c b 6 sc) (hG : gG E (fun q : Nat => s.heap.size ≤ q) L f K k s.heap H locs) (hX : gFresh E L f x) (hY : gFreshM E K k y) (hc : cells ≤ 600000) (hs : slots ≤ 7302249) (hl : lv_has ls 4 [(3, .int (0 : Int32)), (2, .ref y), (1, .ref x), (0, .ref b)]) : W p l e room_1 s m #[Value.ref b] below meth c H locs cells slots (lw_Z below #[Value.ref b] s) (F0 m 995 ls []) := by
  have C := Z.1
  have hx := C.1
  have hb := C.2.1
  have hbA : ¬ (fun q : Nat => s.heap.size ≤ q) b := Nat.not_le.mpr Z.2.2.2
  obtain ⟨xt, xn, xr, xi, xw, xs, xl, xc, xh, xf, xm, xb, xd, lf, ll, na, da, wv, iv, mx, fx, mt, ft, mb, fb, mn, fn, mr, fr, md, fd, ml, fl, mw, fw, mi, fi, mm, fm, gn, gd, hnd, wr, im⟩ := hX
  obtain ⟨ya, wc, my, fy, am_width, af_width, am_many, af_many, am_cells, af_cells, am_tape, af_tape, am_lines, af_lines, am_has, af_has, am_flight, af_flight, am_member, af_member, am_act, af_act, am_isKept, af_isKept, hw⟩ := hY
  refine lv_aload_n hx hb dL_law_995 rfl (lv_at hl 2 rfl) ?_
  refine lv_aload_n hx hb dL_law_996 rfl (lv_at hl 3 rfl) ?_
  refine lv_iload_n hx hb dL_law_997 rfl (lv_at hl 0 rfl) ?_
  refine lv_iconst (v := (1 : Int32)) hx hb dL_law_998 (by decide) ?_
  refine lv_iadd hx hb dL_law_999 ?_
  refine lv_topi (fun z1 ez1 => ?_)
  obtain rfl : z1 = (1 : Int32) := ez1.trans (by decide)
  refine va_sld hx hb Z.2.2.1 Z.2.2.2 hbA hG.1.2.2 (vp_inL (by decide)) dL_law_1000 ?_
  refine lv_topi (fun z2 ez2 => ?_)
  obtain rfl : z2 = sc 1 := ez2.trans (congrArg sc (by decide))
  refine g_ViG C hl.1 (fun _ h => h) hG (As := [.int (sc 1)]) (rest := []) (k_farthest l E L f mx fx mn fn (sc 1)) my_X9_farthest wd618 mx fx rfl rfl rfl (Nat.le_of_ble_eq_true rfl) ⟨Nat.le_of_ble_eq_true rfl, Nat.le_of_ble_eq_true rfl⟩ ⟨hc, hs⟩ dL_law_1001 (fun r1 L1 f1 H locs hp1 hG => ?_)
  have hG := hG.swap
  refine lv_aload_n hx hb dL_law_1004 rfl (lv_at hl 1 rfl) ?_
  refine lv_aload_n hx hb dL_law_1005 rfl (lv_at hl 3 rfl) ?_
  refine lv_iload_n hx hb dL_law_1006 rfl (lv_at hl 0 rfl) ?_
  refine lv_iconst (v := (1 : Int32)) hx hb dL_law_1007 (by decide) ?_
  refine lv_iadd hx hb dL_law_1008 ?_
  refine lv_topi (fun z3 ez3 => ?_)
  obtain rfl : z3 = (1 : Int32) := ez3.trans (by decide)
  refine va_sld hx hb Z.2.2.1 Z.2.2.2 hbA hG.1.2.2 (vp_inL (by decide)) dL_law_1009 ?_
  refine lv_topi (fun z4 ez4 => ?_)
  obtain rfl : z4 = sc 1 := ez4.trans (congrArg sc (by decide))
  refine g_ViG C hl.1 (fun _ h => h) hG (As := [.int (sc 1)]) (rest := [.int r1]) (m_farthest l E K k my fy am_lines af_lines am_has af_has (sc 1)) my_X10_farthest wd622 my fy rfl rfl rfl (Nat.le_of_ble_eq_true rfl) ⟨Nat.le_of_ble_eq_true rfl, Nat.le_of_ble_eq_true rfl⟩ ⟨hc, hs⟩ dL_law_1010 (fun r2 K1 k1 H locs hp2 hG => ?_)
  have hG := hG.swap
  refine lv_icmp_eq (tgt := 2118) hx hb dL_law_1013 (by decide) (fun _ => ?_) (fun h => absurd (hp1.1.trans hp2.symm) h)
  exact law_tail Z hG.1.2.2 hc hs hl
set_option maxHeartbeats 4000000 in
set_option maxRecDepth 100000 in
theorem law_30 {p : Program} {l : Launch} {e : Env} {s : State} {m : MethodId} {below : List Frame} {meth : Method} {c : Code} {b : Nat} {sc : Nat → Int32} {E : gE} {L K : List Nat} {f k : gF} {x y : Nat} {H : Heap} {locs : List Loc} {cells slots : Nat} {ls : Array Slot} (Z : gLw E p s m meth c b 6 sc) (hG : gG E (fun q : Nat => s.heap.size ≤ q) L f K k s.heap H locs) (hX : gFresh E L f x) (hY : gFreshM E K k y) (hc : cells ≤ 600000) (hs : slots ≤ 7302249) (hl : lv_has ls 4 [(3, .int (0 : Int32)), (2, .ref y), (1, .ref x), (0, .ref b)]) : W p l e room_1 s m #[Value.ref b] below meth c H locs cells slots (lw_Z below #[Value.ref b] s) (F0 m 1018 ls []) := by
  have C := Z.1
  have hx := C.1
  have hb := C.2.1
  have hbA : ¬ (fun q : Nat => s.heap.size ≤ q) b := Nat.not_le.mpr Z.2.2.2
  obtain ⟨xt, xn, xr, xi, xw, xs, xl, xc, xh, xf, xm, xb, xd, lf, ll, na, da, wv, iv, mx, fx, mt, ft, mb, fb, mn, fn, mr, fr, md, fd, ml, fl, mw, fw, mi, fi, mm, fm, gn, gd, hnd, wr, im⟩ := hX
  obtain ⟨ya, wc, my, fy, am_width, af_width, am_many, af_many, am_cells, af_cells, am_tape, af_tape, am_lines, af_lines, am_has, af_has, am_flight, af_flight, am_member, af_member, am_act, af_act, am_isKept, af_isKept, hw⟩ := hY
  refine lv_aload_n hx hb dL_law_1018 rfl (lv_at hl 2 rfl) ?_
  refine lv_aload_n hx hb dL_law_1019 rfl (lv_at hl 3 rfl) ?_
  refine lv_iload_n hx hb dL_law_1020 rfl (lv_at hl 0 rfl) ?_
  refine lv_iconst (v := (1 : Int32)) hx hb dL_law_1021 (by decide) ?_
  refine lv_iadd hx hb dL_law_1022 ?_
  refine lv_topi (fun z1 ez1 => ?_)
  obtain rfl : z1 = (1 : Int32) := ez1.trans (by decide)
  refine va_sld hx hb Z.2.2.1 Z.2.2.2 hbA hG.1.2.2 (vp_inL (by decide)) dL_law_1023 ?_
  refine lv_topi (fun z2 ez2 => ?_)
  obtain rfl : z2 = sc 1 := ez2.trans (congrArg sc (by decide))
  refine g_ViG C hl.1 (fun _ h => h) hG (As := [.int (sc 1)]) (rest := []) (k_fewest l E L f mx fx mn fn (sc 1)) my_X9_fewest wd626 mx fx rfl rfl rfl (Nat.le_of_ble_eq_true rfl) ⟨Nat.le_of_ble_eq_true rfl, Nat.le_of_ble_eq_true rfl⟩ ⟨hc, hs⟩ dL_law_1024 (fun r1 L1 f1 H locs hp1 hG => ?_)
  have hG := hG.swap
  refine lv_aload_n hx hb dL_law_1027 rfl (lv_at hl 1 rfl) ?_
  refine lv_aload_n hx hb dL_law_1028 rfl (lv_at hl 3 rfl) ?_
  refine lv_iload_n hx hb dL_law_1029 rfl (lv_at hl 0 rfl) ?_
  refine lv_iconst (v := (1 : Int32)) hx hb dL_law_1030 (by decide) ?_
  refine lv_iadd hx hb dL_law_1031 ?_
  refine lv_topi (fun z3 ez3 => ?_)
  obtain rfl : z3 = (1 : Int32) := ez3.trans (by decide)
  refine va_sld hx hb Z.2.2.1 Z.2.2.2 hbA hG.1.2.2 (vp_inL (by decide)) dL_law_1032 ?_
  refine lv_topi (fun z4 ez4 => ?_)
  obtain rfl : z4 = sc 1 := ez4.trans (congrArg sc (by decide))
  refine g_ViG C hl.1 (fun _ h => h) hG (As := [.int (sc 1)]) (rest := [.int r1]) (m_fewest l E K k my fy am_lines af_lines am_has af_has (sc 1)) my_X10_fewest wd630 my fy rfl rfl rfl (Nat.le_of_ble_eq_true rfl) ⟨Nat.le_of_ble_eq_true rfl, Nat.le_of_ble_eq_true rfl⟩ ⟨hc, hs⟩ dL_law_1033 (fun r2 K1 k1 H locs hp2 hG => ?_)
  have hG := hG.swap
  refine lv_icmp_eq (tgt := 2118) hx hb dL_law_1036 (by decide) (fun _ => ?_) (fun h => absurd (hp1.1.trans hp2.symm) h)
  exact law_tail Z hG.1.2.2 hc hs hl
set_option maxHeartbeats 4000000 in
set_option maxRecDepth 100000 in
theorem law_31 {p : Program} {l : Launch} {e : Env} {s : State} {m : MethodId} {below : List Frame} {meth : Method} {c : Code} {b : Nat} {sc : Nat → Int32} {E : gE} {L K : List Nat} {f k : gF} {x y : Nat} {H : Heap} {locs : List Loc} {cells slots : Nat} {ls : Array Slot} (Z : gLw E p s m meth c b 6 sc) (hG : gG E (fun q : Nat => s.heap.size ≤ q) L f K k s.heap H locs) (hX : gFresh E L f x) (hY : gFreshM E K k y) (hc : cells ≤ 600000) (hs : slots ≤ 7302249) (hl : lv_has ls 4 [(3, .int (0 : Int32)), (2, .ref y), (1, .ref x), (0, .ref b)]) : W p l e room_1 s m #[Value.ref b] below meth c H locs cells slots (lw_Z below #[Value.ref b] s) (F0 m 1041 ls []) := by
  have C := Z.1
  have hx := C.1
  have hb := C.2.1
  have hbA : ¬ (fun q : Nat => s.heap.size ≤ q) b := Nat.not_le.mpr Z.2.2.2
  obtain ⟨xt, xn, xr, xi, xw, xs, xl, xc, xh, xf, xm, xb, xd, lf, ll, na, da, wv, iv, mx, fx, mt, ft, mb, fb, mn, fn, mr, fr, md, fd, ml, fl, mw, fw, mi, fi, mm, fm, gn, gd, hnd, wr, im⟩ := hX
  obtain ⟨ya, wc, my, fy, am_width, af_width, am_many, af_many, am_cells, af_cells, am_tape, af_tape, am_lines, af_lines, am_has, af_has, am_flight, af_flight, am_member, af_member, am_act, af_act, am_isKept, af_isKept, hw⟩ := hY
  refine lv_aload_n hx hb dL_law_1041 rfl (lv_at hl 2 rfl) ?_
  refine lv_aload_n hx hb dL_law_1042 rfl (lv_at hl 3 rfl) ?_
  refine lv_iload_n hx hb dL_law_1043 rfl (lv_at hl 0 rfl) ?_
  refine lv_iconst (v := (1 : Int32)) hx hb dL_law_1044 (by decide) ?_
  refine lv_iadd hx hb dL_law_1045 ?_
  refine lv_topi (fun z1 ez1 => ?_)
  obtain rfl : z1 = (1 : Int32) := ez1.trans (by decide)
  refine va_sld hx hb Z.2.2.1 Z.2.2.2 hbA hG.1.2.2 (vp_inL (by decide)) dL_law_1046 ?_
  refine lv_topi (fun z2 ez2 => ?_)
  obtain rfl : z2 = sc 1 := ez2.trans (congrArg sc (by decide))
  refine g_ViG C hl.1 (fun _ h => h) hG (As := [.int (sc 1)]) (rest := []) (k_lights l E L f mx fx mn fn (sc 1)) my_X9_lights wd634 mx fx rfl rfl rfl (Nat.le_of_ble_eq_true rfl) ⟨Nat.le_of_ble_eq_true rfl, Nat.le_of_ble_eq_true rfl⟩ ⟨hc, hs⟩ dL_law_1047 (fun r1 L1 f1 H locs hp1 hG => ?_)
  have hG := hG.swap
  refine lv_aload_n hx hb dL_law_1050 rfl (lv_at hl 1 rfl) ?_
  refine lv_aload_n hx hb dL_law_1051 rfl (lv_at hl 3 rfl) ?_
  refine lv_iload_n hx hb dL_law_1052 rfl (lv_at hl 0 rfl) ?_
  refine lv_iconst (v := (1 : Int32)) hx hb dL_law_1053 (by decide) ?_
  refine lv_iadd hx hb dL_law_1054 ?_
  refine lv_topi (fun z3 ez3 => ?_)
  obtain rfl : z3 = (1 : Int32) := ez3.trans (by decide)
  refine va_sld hx hb Z.2.2.1 Z.2.2.2 hbA hG.1.2.2 (vp_inL (by decide)) dL_law_1055 ?_
  refine lv_topi (fun z4 ez4 => ?_)
  obtain rfl : z4 = sc 1 := ez4.trans (congrArg sc (by decide))
  refine g_ViG C hl.1 (fun _ h => h) hG (As := [.int (sc 1)]) (rest := [.int r1]) (m_lights l E K k my fy am_lines af_lines am_has af_has (sc 1)) my_X10_lights wd638 my fy rfl rfl rfl (Nat.le_of_ble_eq_true rfl) ⟨Nat.le_of_ble_eq_true rfl, Nat.le_of_ble_eq_true rfl⟩ ⟨hc, hs⟩ dL_law_1056 (fun r2 K1 k1 H locs hp2 hG => ?_)
  have hG := hG.swap
  refine lv_icmp_eq (tgt := 2118) hx hb dL_law_1059 (by decide) (fun _ => ?_) (fun h => absurd (hp1.1.trans hp2.symm) h)
  exact law_tail Z hG.1.2.2 hc hs hl
set_option maxHeartbeats 4000000 in
set_option maxRecDepth 100000 in
theorem law_32 {p : Program} {l : Launch} {e : Env} {s : State} {m : MethodId} {below : List Frame} {meth : Method} {c : Code} {b : Nat} {sc : Nat → Int32} {E : gE} {L K : List Nat} {f k : gF} {x y : Nat} {H : Heap} {locs : List Loc} {cells slots : Nat} {ls : Array Slot} (Z : gLw E p s m meth c b 6 sc) (hG : gG E (fun q : Nat => s.heap.size ≤ q) L f K k s.heap H locs) (hX : gFresh E L f x) (hY : gFreshM E K k y) (hc : cells ≤ 600000) (hs : slots ≤ 7302249) (hl : lv_has ls 4 [(3, .int (0 : Int32)), (2, .ref y), (1, .ref x), (0, .ref b)]) : W p l e room_1 s m #[Value.ref b] below meth c H locs cells slots (lw_Z below #[Value.ref b] s) (F0 m 1064 ls []) := by
  have C := Z.1
  have hx := C.1
  have hb := C.2.1
  have hbA : ¬ (fun q : Nat => s.heap.size ≤ q) b := Nat.not_le.mpr Z.2.2.2
  obtain ⟨xt, xn, xr, xi, xw, xs, xl, xc, xh, xf, xm, xb, xd, lf, ll, na, da, wv, iv, mx, fx, mt, ft, mb, fb, mn, fn, mr, fr, md, fd, ml, fl, mw, fw, mi, fi, mm, fm, gn, gd, hnd, wr, im⟩ := hX
  obtain ⟨ya, wc, my, fy, am_width, af_width, am_many, af_many, am_cells, af_cells, am_tape, af_tape, am_lines, af_lines, am_has, af_has, am_flight, af_flight, am_member, af_member, am_act, af_act, am_isKept, af_isKept, hw⟩ := hY
  refine lv_aload_n hx hb dL_law_1064 rfl (lv_at hl 2 rfl) ?_
  refine lv_aload_n hx hb dL_law_1065 rfl (lv_at hl 3 rfl) ?_
  refine lv_iload_n hx hb dL_law_1066 rfl (lv_at hl 0 rfl) ?_
  refine lv_iconst (v := (1 : Int32)) hx hb dL_law_1067 (by decide) ?_
  refine lv_iadd hx hb dL_law_1068 ?_
  refine lv_topi (fun z1 ez1 => ?_)
  obtain rfl : z1 = (1 : Int32) := ez1.trans (by decide)
  refine va_sld hx hb Z.2.2.1 Z.2.2.2 hbA hG.1.2.2 (vp_inL (by decide)) dL_law_1069 ?_
  refine lv_topi (fun z2 ez2 => ?_)
  obtain rfl : z2 = sc 1 := ez2.trans (congrArg sc (by decide))
  refine g_ViG C hl.1 (fun _ h => h) hG (As := [.int (sc 1)]) (rest := []) (k_best l E L f mx fx mn fn (sc 1)) my_X9_best wd642 mx fx rfl rfl rfl (Nat.le_of_ble_eq_true rfl) ⟨Nat.le_of_ble_eq_true rfl, Nat.le_of_ble_eq_true rfl⟩ ⟨hc, hs⟩ dL_law_1070 (fun r1 L1 f1 H locs hp1 hG => ?_)
  have hG := hG.swap
  refine lv_aload_n hx hb dL_law_1073 rfl (lv_at hl 1 rfl) ?_
  refine lv_aload_n hx hb dL_law_1074 rfl (lv_at hl 3 rfl) ?_
  refine lv_iload_n hx hb dL_law_1075 rfl (lv_at hl 0 rfl) ?_
  refine lv_iconst (v := (1 : Int32)) hx hb dL_law_1076 (by decide) ?_
  refine lv_iadd hx hb dL_law_1077 ?_
  refine lv_topi (fun z3 ez3 => ?_)
  obtain rfl : z3 = (1 : Int32) := ez3.trans (by decide)
  refine va_sld hx hb Z.2.2.1 Z.2.2.2 hbA hG.1.2.2 (vp_inL (by decide)) dL_law_1078 ?_
  refine lv_topi (fun z4 ez4 => ?_)
  obtain rfl : z4 = sc 1 := ez4.trans (congrArg sc (by decide))
  refine g_ViG C hl.1 (fun _ h => h) hG (As := [.int (sc 1)]) (rest := [.int r1]) (m_best l E K k my fy am_lines af_lines am_has af_has (sc 1)) my_X10_best wd646 my fy rfl rfl rfl (Nat.le_of_ble_eq_true rfl) ⟨Nat.le_of_ble_eq_true rfl, Nat.le_of_ble_eq_true rfl⟩ ⟨hc, hs⟩ dL_law_1079 (fun r2 K1 k1 H locs hp2 hG => ?_)
  have hG := hG.swap
  refine lv_icmp_eq (tgt := 2118) hx hb dL_law_1082 (by decide) (fun _ => ?_) (fun h => absurd (hp1.1.trans hp2.symm) h)
  exact law_tail Z hG.1.2.2 hc hs hl
set_option maxHeartbeats 4000000 in
set_option maxRecDepth 100000 in
theorem law_33 {p : Program} {l : Launch} {e : Env} {s : State} {m : MethodId} {below : List Frame} {meth : Method} {c : Code} {b : Nat} {sc : Nat → Int32} {E : gE} {L K : List Nat} {f k : gF} {x y : Nat} {H : Heap} {locs : List Loc} {cells slots : Nat} {ls : Array Slot} (Z : gLw E p s m meth c b 6 sc) (hG : gG E (fun q : Nat => s.heap.size ≤ q) L f K k s.heap H locs) (hX : gFresh E L f x) (hY : gFreshM E K k y) (hc : cells ≤ 600000) (hs : slots ≤ 7302249) (hl : lv_has ls 4 [(3, .int (0 : Int32)), (2, .ref y), (1, .ref x), (0, .ref b)]) : W p l e room_1 s m #[Value.ref b] below meth c H locs cells slots (lw_Z below #[Value.ref b] s) (F0 m 1087 ls []) := by
  have C := Z.1
  have hx := C.1
  have hb := C.2.1
  have hbA : ¬ (fun q : Nat => s.heap.size ≤ q) b := Nat.not_le.mpr Z.2.2.2
  obtain ⟨xt, xn, xr, xi, xw, xs, xl, xc, xh, xf, xm, xb, xd, lf, ll, na, da, wv, iv, mx, fx, mt, ft, mb, fb, mn, fn, mr, fr, md, fd, ml, fl, mw, fw, mi, fi, mm, fm, gn, gd, hnd, wr, im⟩ := hX
  obtain ⟨ya, wc, my, fy, am_width, af_width, am_many, af_many, am_cells, af_cells, am_tape, af_tape, am_lines, af_lines, am_has, af_has, am_flight, af_flight, am_member, af_member, am_act, af_act, am_isKept, af_isKept, hw⟩ := hY
  refine lv_aload_n hx hb dL_law_1087 rfl (lv_at hl 2 rfl) ?_
  refine lv_aload_n hx hb dL_law_1088 rfl (lv_at hl 3 rfl) ?_
  refine lv_iload_n hx hb dL_law_1089 rfl (lv_at hl 0 rfl) ?_
  refine lv_iconst (v := (1 : Int32)) hx hb dL_law_1090 (by decide) ?_
  refine lv_iadd hx hb dL_law_1091 ?_
  refine lv_topi (fun z1 ez1 => ?_)
  obtain rfl : z1 = (1 : Int32) := ez1.trans (by decide)
  refine va_sld hx hb Z.2.2.1 Z.2.2.2 hbA hG.1.2.2 (vp_inL (by decide)) dL_law_1092 ?_
  refine lv_topi (fun z2 ez2 => ?_)
  obtain rfl : z2 = sc 1 := ez2.trans (congrArg sc (by decide))
  refine g_ViG C hl.1 (fun _ h => h) hG (As := [.int (sc 1)]) (rest := []) (k_bests l E L f mx fx mn fn (sc 1)) my_X9_bests wd650 mx fx rfl rfl rfl (Nat.le_of_ble_eq_true rfl) ⟨Nat.le_of_ble_eq_true rfl, Nat.le_of_ble_eq_true rfl⟩ ⟨hc, hs⟩ dL_law_1093 (fun r1 L1 f1 H locs hp1 hG => ?_)
  have hG := hG.swap
  refine lv_aload_n hx hb dL_law_1096 rfl (lv_at hl 1 rfl) ?_
  refine lv_aload_n hx hb dL_law_1097 rfl (lv_at hl 3 rfl) ?_
  refine lv_iload_n hx hb dL_law_1098 rfl (lv_at hl 0 rfl) ?_
  refine lv_iconst (v := (1 : Int32)) hx hb dL_law_1099 (by decide) ?_
  refine lv_iadd hx hb dL_law_1100 ?_
  refine lv_topi (fun z3 ez3 => ?_)
  obtain rfl : z3 = (1 : Int32) := ez3.trans (by decide)
  refine va_sld hx hb Z.2.2.1 Z.2.2.2 hbA hG.1.2.2 (vp_inL (by decide)) dL_law_1101 ?_
  refine lv_topi (fun z4 ez4 => ?_)
  obtain rfl : z4 = sc 1 := ez4.trans (congrArg sc (by decide))
  refine g_ViG C hl.1 (fun _ h => h) hG (As := [.int (sc 1)]) (rest := [.int r1]) (m_bests l E K k my fy am_lines af_lines am_has af_has (sc 1)) my_X10_bests wd654 my fy rfl rfl rfl (Nat.le_of_ble_eq_true rfl) ⟨Nat.le_of_ble_eq_true rfl, Nat.le_of_ble_eq_true rfl⟩ ⟨hc, hs⟩ dL_law_1102 (fun r2 K1 k1 H locs hp2 hG => ?_)
  have hG := hG.swap
  refine lv_icmp_eq (tgt := 2118) hx hb dL_law_1105 (by decide) (fun _ => ?_) (fun h => absurd (hp1.1.trans hp2.symm) h)
  exact law_tail Z hG.1.2.2 hc hs hl
set_option maxHeartbeats 4000000 in
set_option maxRecDepth 100000 in
theorem law_34 {p : Program} {l : Launch} {e : Env} {s : State} {m : MethodId} {below : List Frame} {meth : Method} {c : Code} {b : Nat} {sc : Nat → Int32} {E : gE} {L K : List Nat} {f k : gF} {x y : Nat} {H : Heap} {locs : List Loc} {cells slots : Nat} {ls : Array Slot} (Z : gLw E p s m meth c b 6 sc) (hG : gG E (fun q : Nat => s.heap.size ≤ q) L f K k s.heap H locs) (hX : gFresh E L f x) (hY : gFreshM E K k y) (hc : cells ≤ 600000) (hs : slots ≤ 7302249) (hl : lv_has ls 4 [(3, .int (0 : Int32)), (2, .ref y), (1, .ref x), (0, .ref b)]) : W p l e room_1 s m #[Value.ref b] below meth c H locs cells slots (lw_Z below #[Value.ref b] s) (F0 m 1110 ls []) := by
  have C := Z.1
  have hx := C.1
  have hb := C.2.1
  have hbA : ¬ (fun q : Nat => s.heap.size ≤ q) b := Nat.not_le.mpr Z.2.2.2
  obtain ⟨xt, xn, xr, xi, xw, xs, xl, xc, xh, xf, xm, xb, xd, lf, ll, na, da, wv, iv, mx, fx, mt, ft, mb, fb, mn, fn, mr, fr, md, fd, ml, fl, mw, fw, mi, fi, mm, fm, gn, gd, hnd, wr, im⟩ := hX
  obtain ⟨ya, wc, my, fy, am_width, af_width, am_many, af_many, am_cells, af_cells, am_tape, af_tape, am_lines, af_lines, am_has, af_has, am_flight, af_flight, am_member, af_member, am_act, af_act, am_isKept, af_isKept, hw⟩ := hY
  refine lv_aload_n hx hb dL_law_1110 rfl (lv_at hl 2 rfl) ?_
  refine lv_aload_n hx hb dL_law_1111 rfl (lv_at hl 3 rfl) ?_
  refine lv_iload_n hx hb dL_law_1112 rfl (lv_at hl 0 rfl) ?_
  refine lv_iconst (v := (1 : Int32)) hx hb dL_law_1113 (by decide) ?_
  refine lv_iadd hx hb dL_law_1114 ?_
  refine lv_topi (fun z1 ez1 => ?_)
  obtain rfl : z1 = (1 : Int32) := ez1.trans (by decide)
  refine va_sld hx hb Z.2.2.1 Z.2.2.2 hbA hG.1.2.2 (vp_inL (by decide)) dL_law_1115 ?_
  refine lv_topi (fun z2 ez2 => ?_)
  obtain rfl : z2 = sc 1 := ez2.trans (congrArg sc (by decide))
  refine g_ViG C hl.1 (fun _ h => h) hG (As := [.int (sc 1)]) (rest := []) (k_most l E L f mx fx mn fn (sc 1)) my_X9_most wd658 mx fx rfl rfl rfl (Nat.le_of_ble_eq_true rfl) ⟨Nat.le_of_ble_eq_true rfl, Nat.le_of_ble_eq_true rfl⟩ ⟨hc, hs⟩ dL_law_1116 (fun r1 L1 f1 H locs hp1 hG => ?_)
  have hG := hG.swap
  refine lv_aload_n hx hb dL_law_1119 rfl (lv_at hl 1 rfl) ?_
  refine lv_aload_n hx hb dL_law_1120 rfl (lv_at hl 3 rfl) ?_
  refine lv_iload_n hx hb dL_law_1121 rfl (lv_at hl 0 rfl) ?_
  refine lv_iconst (v := (1 : Int32)) hx hb dL_law_1122 (by decide) ?_
  refine lv_iadd hx hb dL_law_1123 ?_
  refine lv_topi (fun z3 ez3 => ?_)
  obtain rfl : z3 = (1 : Int32) := ez3.trans (by decide)
  refine va_sld hx hb Z.2.2.1 Z.2.2.2 hbA hG.1.2.2 (vp_inL (by decide)) dL_law_1124 ?_
  refine lv_topi (fun z4 ez4 => ?_)
  obtain rfl : z4 = sc 1 := ez4.trans (congrArg sc (by decide))
  refine g_ViG C hl.1 (fun _ h => h) hG (As := [.int (sc 1)]) (rest := [.int r1]) (m_most l E K k my fy am_lines af_lines am_has af_has (sc 1)) my_X10_most wd662 my fy rfl rfl rfl (Nat.le_of_ble_eq_true rfl) ⟨Nat.le_of_ble_eq_true rfl, Nat.le_of_ble_eq_true rfl⟩ ⟨hc, hs⟩ dL_law_1125 (fun r2 K1 k1 H locs hp2 hG => ?_)
  have hG := hG.swap
  refine lv_icmp_eq (tgt := 2118) hx hb dL_law_1128 (by decide) (fun _ => ?_) (fun h => absurd (hp1.1.trans hp2.symm) h)
  exact law_tail Z hG.1.2.2 hc hs hl
set_option maxHeartbeats 4000000 in
set_option maxRecDepth 100000 in
theorem law_35 {p : Program} {l : Launch} {e : Env} {s : State} {m : MethodId} {below : List Frame} {meth : Method} {c : Code} {b : Nat} {sc : Nat → Int32} {E : gE} {L K : List Nat} {f k : gF} {x y : Nat} {H : Heap} {locs : List Loc} {cells slots : Nat} {ls : Array Slot} (Z : gLw E p s m meth c b 6 sc) (hG : gG E (fun q : Nat => s.heap.size ≤ q) L f K k s.heap H locs) (hX : gFresh E L f x) (hY : gFreshM E K k y) (hc : cells ≤ 600000) (hs : slots ≤ 7302249) (hl : lv_has ls 4 [(3, .int (0 : Int32)), (2, .ref y), (1, .ref x), (0, .ref b)]) : W p l e room_1 s m #[Value.ref b] below meth c H locs cells slots (lw_Z below #[Value.ref b] s) (F0 m 1133 ls []) := by
  have C := Z.1
  have hx := C.1
  have hb := C.2.1
  have hbA : ¬ (fun q : Nat => s.heap.size ≤ q) b := Nat.not_le.mpr Z.2.2.2
  obtain ⟨xt, xn, xr, xi, xw, xs, xl, xc, xh, xf, xm, xb, xd, lf, ll, na, da, wv, iv, mx, fx, mt, ft, mb, fb, mn, fn, mr, fr, md, fd, ml, fl, mw, fw, mi, fi, mm, fm, gn, gd, hnd, wr, im⟩ := hX
  obtain ⟨ya, wc, my, fy, am_width, af_width, am_many, af_many, am_cells, af_cells, am_tape, af_tape, am_lines, af_lines, am_has, af_has, am_flight, af_flight, am_member, af_member, am_act, af_act, am_isKept, af_isKept, hw⟩ := hY
  refine lv_aload_n hx hb dL_law_1133 rfl (lv_at hl 2 rfl) ?_
  refine g_ViG C hl.1 (fun _ h => h) hG (As := []) (rest := []) (k_more l E L f mx fx mn fn) my_X9_more wd666 mx fx rfl rfl rfl (Nat.le_of_ble_eq_true rfl) ⟨Nat.le_of_ble_eq_true rfl, Nat.le_of_ble_eq_true rfl⟩ ⟨hc, hs⟩ dL_law_1134 (fun r1 L1 f1 H locs hp1 hG => ?_)
  have hG := hG.swap
  refine lv_aload_n hx hb dL_law_1137 rfl (lv_at hl 1 rfl) ?_
  refine g_ViG C hl.1 (fun _ h => h) hG (As := []) (rest := [.int r1]) (m_more l E K k my fy am_lines af_lines am_has af_has) my_X10_more wd670 my fy rfl rfl rfl (Nat.le_of_ble_eq_true rfl) ⟨Nat.le_of_ble_eq_true rfl, Nat.le_of_ble_eq_true rfl⟩ ⟨hc, hs⟩ dL_law_1138 (fun r2 K1 k1 H locs hp2 hG => ?_)
  have hG := hG.swap
  refine lv_icmp_eq (tgt := 2118) hx hb dL_law_1141 (by decide) (fun _ => ?_) (fun h => absurd (hp1.1.trans hp2.symm) h)
  exact law_tail Z hG.1.2.2 hc hs hl
set_option maxHeartbeats 4000000 in
set_option maxRecDepth 100000 in
theorem law_36 {p : Program} {l : Launch} {e : Env} {s : State} {m : MethodId} {below : List Frame} {meth : Method} {c : Code} {b : Nat} {sc : Nat → Int32} {E : gE} {L K : List Nat} {f k : gF} {x y : Nat} {H : Heap} {locs : List Loc} {cells slots : Nat} {ls : Array Slot} (Z : gLw E p s m meth c b 6 sc) (hG : gG E (fun q : Nat => s.heap.size ≤ q) L f K k s.heap H locs) (hX : gFresh E L f x) (hY : gFreshM E K k y) (hc : cells ≤ 600000) (hs : slots ≤ 7302249) (hl : lv_has ls 4 [(3, .int (0 : Int32)), (2, .ref y), (1, .ref x), (0, .ref b)]) : W p l e room_1 s m #[Value.ref b] below meth c H locs cells slots (lw_Z below #[Value.ref b] s) (F0 m 1146 ls []) := by
  have C := Z.1
  have hx := C.1
  have hb := C.2.1
  have hbA : ¬ (fun q : Nat => s.heap.size ≤ q) b := Nat.not_le.mpr Z.2.2.2
  obtain ⟨xt, xn, xr, xi, xw, xs, xl, xc, xh, xf, xm, xb, xd, lf, ll, na, da, wv, iv, mx, fx, mt, ft, mb, fb, mn, fn, mr, fr, md, fd, ml, fl, mw, fw, mi, fi, mm, fm, gn, gd, hnd, wr, im⟩ := hX
  obtain ⟨ya, wc, my, fy, am_width, af_width, am_many, af_many, am_cells, af_cells, am_tape, af_tape, am_lines, af_lines, am_has, af_has, am_flight, af_flight, am_member, af_member, am_act, af_act, am_isKept, af_isKept, hw⟩ := hY
  refine lv_aload_n hx hb dL_law_1146 rfl (lv_at hl 2 rfl) ?_
  refine g_ViG C hl.1 (fun _ h => h) hG (As := []) (rest := []) (k_less l E L f mx fx mn fn) my_X9_less wd674 mx fx rfl rfl rfl (Nat.le_of_ble_eq_true rfl) ⟨Nat.le_of_ble_eq_true rfl, Nat.le_of_ble_eq_true rfl⟩ ⟨hc, hs⟩ dL_law_1147 (fun r1 L1 f1 H locs hp1 hG => ?_)
  have hG := hG.swap
  refine lv_aload_n hx hb dL_law_1150 rfl (lv_at hl 1 rfl) ?_
  refine g_ViG C hl.1 (fun _ h => h) hG (As := []) (rest := [.int r1]) (m_less l E K k my fy am_lines af_lines am_has af_has) my_X10_less wd678 my fy rfl rfl rfl (Nat.le_of_ble_eq_true rfl) ⟨Nat.le_of_ble_eq_true rfl, Nat.le_of_ble_eq_true rfl⟩ ⟨hc, hs⟩ dL_law_1151 (fun r2 K1 k1 H locs hp2 hG => ?_)
  have hG := hG.swap
  refine lv_icmp_eq (tgt := 2118) hx hb dL_law_1154 (by decide) (fun _ => ?_) (fun h => absurd (hp1.1.trans hp2.symm) h)
  exact law_tail Z hG.1.2.2 hc hs hl
set_option maxHeartbeats 4000000 in
set_option maxRecDepth 100000 in
theorem law_37 {p : Program} {l : Launch} {e : Env} {s : State} {m : MethodId} {below : List Frame} {meth : Method} {c : Code} {b : Nat} {sc : Nat → Int32} {E : gE} {L K : List Nat} {f k : gF} {x y : Nat} {H : Heap} {locs : List Loc} {cells slots : Nat} {ls : Array Slot} (Z : gLw E p s m meth c b 6 sc) (hG : gG E (fun q : Nat => s.heap.size ≤ q) L f K k s.heap H locs) (hX : gFresh E L f x) (hY : gFreshM E K k y) (hc : cells ≤ 600000) (hs : slots ≤ 7302249) (hl : lv_has ls 4 [(3, .int (0 : Int32)), (2, .ref y), (1, .ref x), (0, .ref b)]) : W p l e room_1 s m #[Value.ref b] below meth c H locs cells slots (lw_Z below #[Value.ref b] s) (F0 m 1159 ls []) := by
  have C := Z.1
  have hx := C.1
  have hb := C.2.1
  have hbA : ¬ (fun q : Nat => s.heap.size ≤ q) b := Nat.not_le.mpr Z.2.2.2
  obtain ⟨xt, xn, xr, xi, xw, xs, xl, xc, xh, xf, xm, xb, xd, lf, ll, na, da, wv, iv, mx, fx, mt, ft, mb, fb, mn, fn, mr, fr, md, fd, ml, fl, mw, fw, mi, fi, mm, fm, gn, gd, hnd, wr, im⟩ := hX
  obtain ⟨ya, wc, my, fy, am_width, af_width, am_many, af_many, am_cells, af_cells, am_tape, af_tape, am_lines, af_lines, am_has, af_has, am_flight, af_flight, am_member, af_member, am_act, af_act, am_isKept, af_isKept, hw⟩ := hY
  refine lv_aload_n hx hb dL_law_1159 rfl (lv_at hl 2 rfl) ?_
  refine lv_aload_n hx hb dL_law_1160 rfl (lv_at hl 3 rfl) ?_
  refine lv_iload_n hx hb dL_law_1161 rfl (lv_at hl 0 rfl) ?_
  refine lv_iconst (v := (1 : Int32)) hx hb dL_law_1162 (by decide) ?_
  refine lv_iadd hx hb dL_law_1163 ?_
  refine lv_topi (fun z1 ez1 => ?_)
  obtain rfl : z1 = (1 : Int32) := ez1.trans (by decide)
  refine va_sld hx hb Z.2.2.1 Z.2.2.2 hbA hG.1.2.2 (vp_inL (by decide)) dL_law_1164 ?_
  refine lv_topi (fun z2 ez2 => ?_)
  obtain rfl : z2 = sc 1 := ez2.trans (congrArg sc (by decide))
  refine g_ViG C hl.1 (fun _ h => h) hG (As := [.int (sc 1)]) (rest := []) (k_by l E L f mx fx mn fn (sc 1)) my_X9_by wd682 mx fx rfl rfl rfl (Nat.le_of_ble_eq_true rfl) ⟨Nat.le_of_ble_eq_true rfl, Nat.le_of_ble_eq_true rfl⟩ ⟨hc, hs⟩ dL_law_1165 (fun r1 L1 f1 H locs hp1 hG => ?_)
  have hG := hG.swap
  refine lv_aload_n hx hb dL_law_1168 rfl (lv_at hl 1 rfl) ?_
  refine lv_aload_n hx hb dL_law_1169 rfl (lv_at hl 3 rfl) ?_
  refine lv_iload_n hx hb dL_law_1170 rfl (lv_at hl 0 rfl) ?_
  refine lv_iconst (v := (1 : Int32)) hx hb dL_law_1171 (by decide) ?_
  refine lv_iadd hx hb dL_law_1172 ?_
  refine lv_topi (fun z3 ez3 => ?_)
  obtain rfl : z3 = (1 : Int32) := ez3.trans (by decide)
  refine va_sld hx hb Z.2.2.1 Z.2.2.2 hbA hG.1.2.2 (vp_inL (by decide)) dL_law_1173 ?_
  refine lv_topi (fun z4 ez4 => ?_)
  obtain rfl : z4 = sc 1 := ez4.trans (congrArg sc (by decide))
  refine g_ViG C hl.1 (fun _ h => h) hG (As := [.int (sc 1)]) (rest := [.int r1]) (m_by l E K k my fy am_lines af_lines am_has af_has (sc 1)) my_X10_by wd686 my fy rfl rfl rfl (Nat.le_of_ble_eq_true rfl) ⟨Nat.le_of_ble_eq_true rfl, Nat.le_of_ble_eq_true rfl⟩ ⟨hc, hs⟩ dL_law_1174 (fun r2 K1 k1 H locs hp2 hG => ?_)
  have hG := hG.swap
  refine lv_icmp_eq (tgt := 2118) hx hb dL_law_1177 (by decide) (fun _ => ?_) (fun h => absurd (hp1.1.trans hp2.symm) h)
  exact law_tail Z hG.1.2.2 hc hs hl
set_option maxHeartbeats 4000000 in
set_option maxRecDepth 100000 in
theorem law_38 {p : Program} {l : Launch} {e : Env} {s : State} {m : MethodId} {below : List Frame} {meth : Method} {c : Code} {b : Nat} {sc : Nat → Int32} {E : gE} {L K : List Nat} {f k : gF} {x y : Nat} {H : Heap} {locs : List Loc} {cells slots : Nat} {ls : Array Slot} (Z : gLw E p s m meth c b 6 sc) (hG : gG E (fun q : Nat => s.heap.size ≤ q) L f K k s.heap H locs) (hX : gFresh E L f x) (hY : gFreshM E K k y) (hc : cells ≤ 600000) (hs : slots ≤ 7302249) (hl : lv_has ls 4 [(3, .int (0 : Int32)), (2, .ref y), (1, .ref x), (0, .ref b)]) : W p l e room_1 s m #[Value.ref b] below meth c H locs cells slots (lw_Z below #[Value.ref b] s) (F0 m 1182 ls []) := by
  have C := Z.1
  have hx := C.1
  have hb := C.2.1
  have hbA : ¬ (fun q : Nat => s.heap.size ≤ q) b := Nat.not_le.mpr Z.2.2.2
  obtain ⟨xt, xn, xr, xi, xw, xs, xl, xc, xh, xf, xm, xb, xd, lf, ll, na, da, wv, iv, mx, fx, mt, ft, mb, fb, mn, fn, mr, fr, md, fd, ml, fl, mw, fw, mi, fi, mm, fm, gn, gd, hnd, wr, im⟩ := hX
  obtain ⟨ya, wc, my, fy, am_width, af_width, am_many, af_many, am_cells, af_cells, am_tape, af_tape, am_lines, af_lines, am_has, af_has, am_flight, af_flight, am_member, af_member, am_act, af_act, am_isKept, af_isKept, hw⟩ := hY
  refine lv_aload_n hx hb dL_law_1182 rfl (lv_at hl 2 rfl) ?_
  refine g_ViG C hl.1 (fun _ h => h) hG (As := []) (rest := []) (k_law l E L f mx fx mn fn) my_X9_law wd690 mx fx rfl rfl rfl (Nat.le_of_ble_eq_true rfl) ⟨Nat.le_of_ble_eq_true rfl, Nat.le_of_ble_eq_true rfl⟩ ⟨hc, hs⟩ dL_law_1183 (fun r1 L1 f1 H locs hp1 hG => ?_)
  have hG := hG.swap
  refine lv_aload_n hx hb dL_law_1186 rfl (lv_at hl 1 rfl) ?_
  refine g_ViG C hl.1 (fun _ h => h) hG (As := []) (rest := [.int r1]) (m_law l E K k my fy am_lines af_lines am_has af_has) my_X10_law wd694 my fy rfl rfl rfl (Nat.le_of_ble_eq_true rfl) ⟨Nat.le_of_ble_eq_true rfl, Nat.le_of_ble_eq_true rfl⟩ ⟨hc, hs⟩ dL_law_1187 (fun r2 K1 k1 H locs hp2 hG => ?_)
  have hG := hG.swap
  refine lv_icmp_eq (tgt := 2118) hx hb dL_law_1190 (by decide) (fun _ => ?_) (fun h => absurd (hp1.1.trans hp2.symm) h)
  exact law_tail Z hG.1.2.2 hc hs hl
set_option maxHeartbeats 4000000 in
set_option maxRecDepth 100000 in
theorem law_39 {p : Program} {l : Launch} {e : Env} {s : State} {m : MethodId} {below : List Frame} {meth : Method} {c : Code} {b : Nat} {sc : Nat → Int32} {E : gE} {L K : List Nat} {f k : gF} {x y : Nat} {H : Heap} {locs : List Loc} {cells slots : Nat} {ls : Array Slot} (Z : gLw E p s m meth c b 6 sc) (hG : gG E (fun q : Nat => s.heap.size ≤ q) L f K k s.heap H locs) (hX : gFresh E L f x) (hY : gFreshM E K k y) (hc : cells ≤ 600000) (hs : slots ≤ 7302249) (hl : lv_has ls 4 [(3, .int (0 : Int32)), (2, .ref y), (1, .ref x), (0, .ref b)]) : W p l e room_1 s m #[Value.ref b] below meth c H locs cells slots (lw_Z below #[Value.ref b] s) (F0 m 1195 ls []) := by
  have C := Z.1
  have hx := C.1
  have hb := C.2.1
  have hbA : ¬ (fun q : Nat => s.heap.size ≤ q) b := Nat.not_le.mpr Z.2.2.2
  obtain ⟨xt, xn, xr, xi, xw, xs, xl, xc, xh, xf, xm, xb, xd, lf, ll, na, da, wv, iv, mx, fx, mt, ft, mb, fb, mn, fn, mr, fr, md, fd, ml, fl, mw, fw, mi, fi, mm, fm, gn, gd, hnd, wr, im⟩ := hX
  obtain ⟨ya, wc, my, fy, am_width, af_width, am_many, af_many, am_cells, af_cells, am_tape, af_tape, am_lines, af_lines, am_has, af_has, am_flight, af_flight, am_member, af_member, am_act, af_act, am_isKept, af_isKept, hw⟩ := hY
  refine lv_aload_n hx hb dL_law_1195 rfl (lv_at hl 2 rfl) ?_
  refine lv_aload_n hx hb dL_law_1196 rfl (lv_at hl 3 rfl) ?_
  refine lv_iload_n hx hb dL_law_1197 rfl (lv_at hl 0 rfl) ?_
  refine lv_iconst (v := (1 : Int32)) hx hb dL_law_1198 (by decide) ?_
  refine lv_iadd hx hb dL_law_1199 ?_
  refine lv_topi (fun z1 ez1 => ?_)
  obtain rfl : z1 = (1 : Int32) := ez1.trans (by decide)
  refine va_sld hx hb Z.2.2.1 Z.2.2.2 hbA hG.1.2.2 (vp_inL (by decide)) dL_law_1200 ?_
  refine lv_topi (fun z2 ez2 => ?_)
  obtain rfl : z2 = sc 1 := ez2.trans (congrArg sc (by decide))
  refine g_ViG C hl.1 (fun _ h => h) hG (As := [.int (sc 1)]) (rest := []) (k_laws l E L f mx fx mn fn (sc 1)) my_X9_laws wd698 mx fx rfl rfl rfl (Nat.le_of_ble_eq_true rfl) ⟨Nat.le_of_ble_eq_true rfl, Nat.le_of_ble_eq_true rfl⟩ ⟨hc, hs⟩ dL_law_1201 (fun r1 L1 f1 H locs hp1 hG => ?_)
  have hG := hG.swap
  refine lv_aload_n hx hb dL_law_1204 rfl (lv_at hl 1 rfl) ?_
  refine lv_aload_n hx hb dL_law_1205 rfl (lv_at hl 3 rfl) ?_
  refine lv_iload_n hx hb dL_law_1206 rfl (lv_at hl 0 rfl) ?_
  refine lv_iconst (v := (1 : Int32)) hx hb dL_law_1207 (by decide) ?_
  refine lv_iadd hx hb dL_law_1208 ?_
  refine lv_topi (fun z3 ez3 => ?_)
  obtain rfl : z3 = (1 : Int32) := ez3.trans (by decide)
  refine va_sld hx hb Z.2.2.1 Z.2.2.2 hbA hG.1.2.2 (vp_inL (by decide)) dL_law_1209 ?_
  refine lv_topi (fun z4 ez4 => ?_)
  obtain rfl : z4 = sc 1 := ez4.trans (congrArg sc (by decide))
  refine g_ViG C hl.1 (fun _ h => h) hG (As := [.int (sc 1)]) (rest := [.int r1]) (m_laws l E K k my fy am_lines af_lines am_has af_has (sc 1)) my_X10_laws wd702 my fy rfl rfl rfl (Nat.le_of_ble_eq_true rfl) ⟨Nat.le_of_ble_eq_true rfl, Nat.le_of_ble_eq_true rfl⟩ ⟨hc, hs⟩ dL_law_1210 (fun r2 K1 k1 H locs hp2 hG => ?_)
  have hG := hG.swap
  refine lv_icmp_eq (tgt := 2118) hx hb dL_law_1213 (by decide) (fun _ => ?_) (fun h => absurd (hp1.1.trans hp2.symm) h)
  exact law_tail Z hG.1.2.2 hc hs hl
set_option maxHeartbeats 4000000 in
set_option maxRecDepth 100000 in
theorem law_40 {p : Program} {l : Launch} {e : Env} {s : State} {m : MethodId} {below : List Frame} {meth : Method} {c : Code} {b : Nat} {sc : Nat → Int32} {E : gE} {L K : List Nat} {f k : gF} {x y : Nat} {H : Heap} {locs : List Loc} {cells slots : Nat} {ls : Array Slot} (Z : gLw E p s m meth c b 6 sc) (hG : gG E (fun q : Nat => s.heap.size ≤ q) L f K k s.heap H locs) (hX : gFresh E L f x) (hY : gFreshM E K k y) (hc : cells ≤ 600000) (hs : slots ≤ 7302249) (hl : lv_has ls 4 [(3, .int (0 : Int32)), (2, .ref y), (1, .ref x), (0, .ref b)]) : W p l e room_1 s m #[Value.ref b] below meth c H locs cells slots (lw_Z below #[Value.ref b] s) (F0 m 1218 ls []) := by
  have C := Z.1
  have hx := C.1
  have hb := C.2.1
  have hbA : ¬ (fun q : Nat => s.heap.size ≤ q) b := Nat.not_le.mpr Z.2.2.2
  obtain ⟨xt, xn, xr, xi, xw, xs, xl, xc, xh, xf, xm, xb, xd, lf, ll, na, da, wv, iv, mx, fx, mt, ft, mb, fb, mn, fn, mr, fr, md, fd, ml, fl, mw, fw, mi, fi, mm, fm, gn, gd, hnd, wr, im⟩ := hX
  obtain ⟨ya, wc, my, fy, am_width, af_width, am_many, af_many, am_cells, af_cells, am_tape, af_tape, am_lines, af_lines, am_has, af_has, am_flight, af_flight, am_member, af_member, am_act, af_act, am_isKept, af_isKept, hw⟩ := hY
  refine lv_aload_n hx hb dL_law_1218 rfl (lv_at hl 2 rfl) ?_
  refine lv_aload_n hx hb dL_law_1219 rfl (lv_at hl 3 rfl) ?_
  refine lv_iload_n hx hb dL_law_1220 rfl (lv_at hl 0 rfl) ?_
  refine lv_iconst (v := (1 : Int32)) hx hb dL_law_1221 (by decide) ?_
  refine lv_iadd hx hb dL_law_1222 ?_
  refine lv_topi (fun z1 ez1 => ?_)
  obtain rfl : z1 = (1 : Int32) := ez1.trans (by decide)
  refine va_sld hx hb Z.2.2.1 Z.2.2.2 hbA hG.1.2.2 (vp_inL (by decide)) dL_law_1223 ?_
  refine lv_topi (fun z2 ez2 => ?_)
  obtain rfl : z2 = sc 1 := ez2.trans (congrArg sc (by decide))
  refine g_ViG C hl.1 (fun _ h => h) hG (As := [.int (sc 1)]) (rest := []) (k_ask l E L f mx fx mn fn (sc 1)) my_X9_ask wd706 mx fx rfl rfl rfl (Nat.le_of_ble_eq_true rfl) ⟨Nat.le_of_ble_eq_true rfl, Nat.le_of_ble_eq_true rfl⟩ ⟨hc, hs⟩ dL_law_1224 (fun r1 L1 f1 H locs hp1 hG => ?_)
  have hG := hG.swap
  refine lv_aload_n hx hb dL_law_1227 rfl (lv_at hl 1 rfl) ?_
  refine lv_aload_n hx hb dL_law_1228 rfl (lv_at hl 3 rfl) ?_
  refine lv_iload_n hx hb dL_law_1229 rfl (lv_at hl 0 rfl) ?_
  refine lv_iconst (v := (1 : Int32)) hx hb dL_law_1230 (by decide) ?_
  refine lv_iadd hx hb dL_law_1231 ?_
  refine lv_topi (fun z3 ez3 => ?_)
  obtain rfl : z3 = (1 : Int32) := ez3.trans (by decide)
  refine va_sld hx hb Z.2.2.1 Z.2.2.2 hbA hG.1.2.2 (vp_inL (by decide)) dL_law_1232 ?_
  refine lv_topi (fun z4 ez4 => ?_)
  obtain rfl : z4 = sc 1 := ez4.trans (congrArg sc (by decide))
  refine g_ViG C hl.1 (fun _ h => h) hG (As := [.int (sc 1)]) (rest := [.int r1]) (m_ask l E K k my fy am_lines af_lines am_has af_has (sc 1)) my_X10_ask wd710 my fy rfl rfl rfl (Nat.le_of_ble_eq_true rfl) ⟨Nat.le_of_ble_eq_true rfl, Nat.le_of_ble_eq_true rfl⟩ ⟨hc, hs⟩ dL_law_1233 (fun r2 K1 k1 H locs hp2 hG => ?_)
  have hG := hG.swap
  refine lv_icmp_eq (tgt := 2118) hx hb dL_law_1236 (by decide) (fun _ => ?_) (fun h => absurd (hp1.1.trans hp2.symm) h)
  exact law_tail Z hG.1.2.2 hc hs hl
set_option maxHeartbeats 4000000 in
set_option maxRecDepth 100000 in
theorem law_41 {p : Program} {l : Launch} {e : Env} {s : State} {m : MethodId} {below : List Frame} {meth : Method} {c : Code} {b : Nat} {sc : Nat → Int32} {E : gE} {L K : List Nat} {f k : gF} {x y : Nat} {H : Heap} {locs : List Loc} {cells slots : Nat} {ls : Array Slot} (Z : gLw E p s m meth c b 6 sc) (hG : gG E (fun q : Nat => s.heap.size ≤ q) L f K k s.heap H locs) (hX : gFresh E L f x) (hY : gFreshM E K k y) (hc : cells ≤ 600000) (hs : slots ≤ 7302249) (hl : lv_has ls 4 [(3, .int (0 : Int32)), (2, .ref y), (1, .ref x), (0, .ref b)]) : W p l e room_1 s m #[Value.ref b] below meth c H locs cells slots (lw_Z below #[Value.ref b] s) (F0 m 1241 ls []) := by
  have C := Z.1
  have hx := C.1
  have hb := C.2.1
  have hbA : ¬ (fun q : Nat => s.heap.size ≤ q) b := Nat.not_le.mpr Z.2.2.2
  obtain ⟨xt, xn, xr, xi, xw, xs, xl, xc, xh, xf, xm, xb, xd, lf, ll, na, da, wv, iv, mx, fx, mt, ft, mb, fb, mn, fn, mr, fr, md, fd, ml, fl, mw, fw, mi, fi, mm, fm, gn, gd, hnd, wr, im⟩ := hX
  obtain ⟨ya, wc, my, fy, am_width, af_width, am_many, af_many, am_cells, af_cells, am_tape, af_tape, am_lines, af_lines, am_has, af_has, am_flight, af_flight, am_member, af_member, am_act, af_act, am_isKept, af_isKept, hw⟩ := hY
  refine lv_aload_n hx hb dL_law_1241 rfl (lv_at hl 2 rfl) ?_
  refine lv_aload_n hx hb dL_law_1242 rfl (lv_at hl 3 rfl) ?_
  refine lv_iload_n hx hb dL_law_1243 rfl (lv_at hl 0 rfl) ?_
  refine lv_iconst (v := (1 : Int32)) hx hb dL_law_1244 (by decide) ?_
  refine lv_iadd hx hb dL_law_1245 ?_
  refine lv_topi (fun z1 ez1 => ?_)
  obtain rfl : z1 = (1 : Int32) := ez1.trans (by decide)
  refine va_sld hx hb Z.2.2.1 Z.2.2.2 hbA hG.1.2.2 (vp_inL (by decide)) dL_law_1246 ?_
  refine lv_topi (fun z2 ez2 => ?_)
  obtain rfl : z2 = sc 1 := ez2.trans (congrArg sc (by decide))
  refine g_ViG C hl.1 (fun _ h => h) hG (As := [.int (sc 1)]) (rest := []) (k_began l E L f mx fx mn fn (sc 1)) my_X9_began wd714 mx fx rfl rfl rfl (Nat.le_of_ble_eq_true rfl) ⟨Nat.le_of_ble_eq_true rfl, Nat.le_of_ble_eq_true rfl⟩ ⟨hc, hs⟩ dL_law_1247 (fun r1 L1 f1 H locs hp1 hG => ?_)
  have hG := hG.swap
  refine lv_aload_n hx hb dL_law_1250 rfl (lv_at hl 1 rfl) ?_
  refine lv_aload_n hx hb dL_law_1251 rfl (lv_at hl 3 rfl) ?_
  refine lv_iload_n hx hb dL_law_1252 rfl (lv_at hl 0 rfl) ?_
  refine lv_iconst (v := (1 : Int32)) hx hb dL_law_1253 (by decide) ?_
  refine lv_iadd hx hb dL_law_1254 ?_
  refine lv_topi (fun z3 ez3 => ?_)
  obtain rfl : z3 = (1 : Int32) := ez3.trans (by decide)
  refine va_sld hx hb Z.2.2.1 Z.2.2.2 hbA hG.1.2.2 (vp_inL (by decide)) dL_law_1255 ?_
  refine lv_topi (fun z4 ez4 => ?_)
  obtain rfl : z4 = sc 1 := ez4.trans (congrArg sc (by decide))
  refine g_ViG C hl.1 (fun _ h => h) hG (As := [.int (sc 1)]) (rest := [.int r1]) (m_began l E K k my fy am_lines af_lines am_has af_has (sc 1)) my_X10_began wd718 my fy rfl rfl rfl (Nat.le_of_ble_eq_true rfl) ⟨Nat.le_of_ble_eq_true rfl, Nat.le_of_ble_eq_true rfl⟩ ⟨hc, hs⟩ dL_law_1256 (fun r2 K1 k1 H locs hp2 hG => ?_)
  have hG := hG.swap
  refine lv_icmp_eq (tgt := 2118) hx hb dL_law_1259 (by decide) (fun _ => ?_) (fun h => absurd (hp1.1.trans hp2.symm) h)
  exact law_tail Z hG.1.2.2 hc hs hl
set_option maxHeartbeats 4000000 in
set_option maxRecDepth 100000 in
theorem law_42 {p : Program} {l : Launch} {e : Env} {s : State} {m : MethodId} {below : List Frame} {meth : Method} {c : Code} {b : Nat} {sc : Nat → Int32} {E : gE} {L K : List Nat} {f k : gF} {x y : Nat} {H : Heap} {locs : List Loc} {cells slots : Nat} {ls : Array Slot} (Z : gLw E p s m meth c b 6 sc) (hG : gG E (fun q : Nat => s.heap.size ≤ q) L f K k s.heap H locs) (hX : gFresh E L f x) (hY : gFreshM E K k y) (hc : cells ≤ 600000) (hs : slots ≤ 7302249) (hl : lv_has ls 4 [(3, .int (0 : Int32)), (2, .ref y), (1, .ref x), (0, .ref b)]) : W p l e room_1 s m #[Value.ref b] below meth c H locs cells slots (lw_Z below #[Value.ref b] s) (F0 m 1264 ls []) := by
  have C := Z.1
  have hx := C.1
  have hb := C.2.1
  have hbA : ¬ (fun q : Nat => s.heap.size ≤ q) b := Nat.not_le.mpr Z.2.2.2
  obtain ⟨xt, xn, xr, xi, xw, xs, xl, xc, xh, xf, xm, xb, xd, lf, ll, na, da, wv, iv, mx, fx, mt, ft, mb, fb, mn, fn, mr, fr, md, fd, ml, fl, mw, fw, mi, fi, mm, fm, gn, gd, hnd, wr, im⟩ := hX
  obtain ⟨ya, wc, my, fy, am_width, af_width, am_many, af_many, am_cells, af_cells, am_tape, af_tape, am_lines, af_lines, am_has, af_has, am_flight, af_flight, am_member, af_member, am_act, af_act, am_isKept, af_isKept, hw⟩ := hY
  refine lv_aload_n hx hb dL_law_1264 rfl (lv_at hl 2 rfl) ?_
  refine lv_aload_n hx hb dL_law_1265 rfl (lv_at hl 3 rfl) ?_
  refine lv_iload_n hx hb dL_law_1266 rfl (lv_at hl 0 rfl) ?_
  refine lv_iconst (v := (1 : Int32)) hx hb dL_law_1267 (by decide) ?_
  refine lv_iadd hx hb dL_law_1268 ?_
  refine lv_topi (fun z1 ez1 => ?_)
  obtain rfl : z1 = (1 : Int32) := ez1.trans (by decide)
  refine va_sld hx hb Z.2.2.1 Z.2.2.2 hbA hG.1.2.2 (vp_inL (by decide)) dL_law_1269 ?_
  refine lv_topi (fun z2 ez2 => ?_)
  obtain rfl : z2 = sc 1 := ez2.trans (congrArg sc (by decide))
  refine g_ViG C hl.1 (fun _ h => h) hG (As := [.int (sc 1)]) (rest := []) (k_spots l E L f mx fx mn fn (sc 1)) my_X9_spots wd722 mx fx rfl rfl rfl (Nat.le_of_ble_eq_true rfl) ⟨Nat.le_of_ble_eq_true rfl, Nat.le_of_ble_eq_true rfl⟩ ⟨hc, hs⟩ dL_law_1270 (fun r1 L1 f1 H locs hp1 hG => ?_)
  have hG := hG.swap
  refine lv_aload_n hx hb dL_law_1273 rfl (lv_at hl 1 rfl) ?_
  refine lv_aload_n hx hb dL_law_1274 rfl (lv_at hl 3 rfl) ?_
  refine lv_iload_n hx hb dL_law_1275 rfl (lv_at hl 0 rfl) ?_
  refine lv_iconst (v := (1 : Int32)) hx hb dL_law_1276 (by decide) ?_
  refine lv_iadd hx hb dL_law_1277 ?_
  refine lv_topi (fun z3 ez3 => ?_)
  obtain rfl : z3 = (1 : Int32) := ez3.trans (by decide)
  refine va_sld hx hb Z.2.2.1 Z.2.2.2 hbA hG.1.2.2 (vp_inL (by decide)) dL_law_1278 ?_
  refine lv_topi (fun z4 ez4 => ?_)
  obtain rfl : z4 = sc 1 := ez4.trans (congrArg sc (by decide))
  refine g_ViG C hl.1 (fun _ h => h) hG (As := [.int (sc 1)]) (rest := [.int r1]) (m_spots l E K k my fy am_lines af_lines am_has af_has (sc 1)) my_X10_spots wd726 my fy rfl rfl rfl (Nat.le_of_ble_eq_true rfl) ⟨Nat.le_of_ble_eq_true rfl, Nat.le_of_ble_eq_true rfl⟩ ⟨hc, hs⟩ dL_law_1279 (fun r2 K1 k1 H locs hp2 hG => ?_)
  have hG := hG.swap
  refine lv_icmp_eq (tgt := 2118) hx hb dL_law_1282 (by decide) (fun _ => ?_) (fun h => absurd (hp1.1.trans hp2.symm) h)
  exact law_tail Z hG.1.2.2 hc hs hl
set_option maxHeartbeats 4000000 in
set_option maxRecDepth 100000 in
theorem law_43 {p : Program} {l : Launch} {e : Env} {s : State} {m : MethodId} {below : List Frame} {meth : Method} {c : Code} {b : Nat} {sc : Nat → Int32} {E : gE} {L K : List Nat} {f k : gF} {x y : Nat} {H : Heap} {locs : List Loc} {cells slots : Nat} {ls : Array Slot} (Z : gLw E p s m meth c b 6 sc) (hG : gG E (fun q : Nat => s.heap.size ≤ q) L f K k s.heap H locs) (hX : gFresh E L f x) (hY : gFreshM E K k y) (hc : cells ≤ 600000) (hs : slots ≤ 7302249) (hl : lv_has ls 4 [(3, .int (0 : Int32)), (2, .ref y), (1, .ref x), (0, .ref b)]) : W p l e room_1 s m #[Value.ref b] below meth c H locs cells slots (lw_Z below #[Value.ref b] s) (F0 m 1287 ls []) := by
  have C := Z.1
  have hx := C.1
  have hb := C.2.1
  have hbA : ¬ (fun q : Nat => s.heap.size ≤ q) b := Nat.not_le.mpr Z.2.2.2
  obtain ⟨xt, xn, xr, xi, xw, xs, xl, xc, xh, xf, xm, xb, xd, lf, ll, na, da, wv, iv, mx, fx, mt, ft, mb, fb, mn, fn, mr, fr, md, fd, ml, fl, mw, fw, mi, fi, mm, fm, gn, gd, hnd, wr, im⟩ := hX
  obtain ⟨ya, wc, my, fy, am_width, af_width, am_many, af_many, am_cells, af_cells, am_tape, af_tape, am_lines, af_lines, am_has, af_has, am_flight, af_flight, am_member, af_member, am_act, af_act, am_isKept, af_isKept, hw⟩ := hY
  refine lv_aload_n hx hb dL_law_1287 rfl (lv_at hl 2 rfl) ?_
  refine lv_aload_n hx hb dL_law_1288 rfl (lv_at hl 3 rfl) ?_
  refine lv_iload_n hx hb dL_law_1289 rfl (lv_at hl 0 rfl) ?_
  refine lv_iconst (v := (1 : Int32)) hx hb dL_law_1290 (by decide) ?_
  refine lv_iadd hx hb dL_law_1291 ?_
  refine lv_topi (fun z1 ez1 => ?_)
  obtain rfl : z1 = (1 : Int32) := ez1.trans (by decide)
  refine va_sld hx hb Z.2.2.1 Z.2.2.2 hbA hG.1.2.2 (vp_inL (by decide)) dL_law_1292 ?_
  refine lv_topi (fun z2 ez2 => ?_)
  obtain rfl : z2 = sc 1 := ez2.trans (congrArg sc (by decide))
  refine g_ViG C hl.1 (fun _ h => h) hG (As := [.int (sc 1)]) (rest := []) (k_who l E L f mx fx mn fn (sc 1)) my_X9_who wd730 mx fx rfl rfl rfl (Nat.le_of_ble_eq_true rfl) ⟨Nat.le_of_ble_eq_true rfl, Nat.le_of_ble_eq_true rfl⟩ ⟨hc, hs⟩ dL_law_1293 (fun r1 L1 f1 H locs hp1 hG => ?_)
  have hG := hG.swap
  refine lv_aload_n hx hb dL_law_1296 rfl (lv_at hl 1 rfl) ?_
  refine lv_aload_n hx hb dL_law_1297 rfl (lv_at hl 3 rfl) ?_
  refine lv_iload_n hx hb dL_law_1298 rfl (lv_at hl 0 rfl) ?_
  refine lv_iconst (v := (1 : Int32)) hx hb dL_law_1299 (by decide) ?_
  refine lv_iadd hx hb dL_law_1300 ?_
  refine lv_topi (fun z3 ez3 => ?_)
  obtain rfl : z3 = (1 : Int32) := ez3.trans (by decide)
  refine va_sld hx hb Z.2.2.1 Z.2.2.2 hbA hG.1.2.2 (vp_inL (by decide)) dL_law_1301 ?_
  refine lv_topi (fun z4 ez4 => ?_)
  obtain rfl : z4 = sc 1 := ez4.trans (congrArg sc (by decide))
  refine g_ViG C hl.1 (fun _ h => h) hG (As := [.int (sc 1)]) (rest := [.int r1]) (m_who l E K k my fy am_lines af_lines am_has af_has (sc 1)) my_X10_who wd734 my fy rfl rfl rfl (Nat.le_of_ble_eq_true rfl) ⟨Nat.le_of_ble_eq_true rfl, Nat.le_of_ble_eq_true rfl⟩ ⟨hc, hs⟩ dL_law_1302 (fun r2 K1 k1 H locs hp2 hG => ?_)
  have hG := hG.swap
  refine lv_icmp_eq (tgt := 2118) hx hb dL_law_1305 (by decide) (fun _ => ?_) (fun h => absurd (hp1.1.trans hp2.symm) h)
  exact law_tail Z hG.1.2.2 hc hs hl
set_option maxHeartbeats 4000000 in
set_option maxRecDepth 100000 in
theorem law_44 {p : Program} {l : Launch} {e : Env} {s : State} {m : MethodId} {below : List Frame} {meth : Method} {c : Code} {b : Nat} {sc : Nat → Int32} {E : gE} {L K : List Nat} {f k : gF} {x y : Nat} {H : Heap} {locs : List Loc} {cells slots : Nat} {ls : Array Slot} (Z : gLw E p s m meth c b 6 sc) (hG : gG E (fun q : Nat => s.heap.size ≤ q) L f K k s.heap H locs) (hX : gFresh E L f x) (hY : gFreshM E K k y) (hc : cells ≤ 600000) (hs : slots ≤ 7302249) (hl : lv_has ls 4 [(3, .int (0 : Int32)), (2, .ref y), (1, .ref x), (0, .ref b)]) : W p l e room_1 s m #[Value.ref b] below meth c H locs cells slots (lw_Z below #[Value.ref b] s) (F0 m 1310 ls []) := by
  have C := Z.1
  have hx := C.1
  have hb := C.2.1
  have hbA : ¬ (fun q : Nat => s.heap.size ≤ q) b := Nat.not_le.mpr Z.2.2.2
  obtain ⟨xt, xn, xr, xi, xw, xs, xl, xc, xh, xf, xm, xb, xd, lf, ll, na, da, wv, iv, mx, fx, mt, ft, mb, fb, mn, fn, mr, fr, md, fd, ml, fl, mw, fw, mi, fi, mm, fm, gn, gd, hnd, wr, im⟩ := hX
  obtain ⟨ya, wc, my, fy, am_width, af_width, am_many, af_many, am_cells, af_cells, am_tape, af_tape, am_lines, af_lines, am_has, af_has, am_flight, af_flight, am_member, af_member, am_act, af_act, am_isKept, af_isKept, hw⟩ := hY
  refine lv_aload_n hx hb dL_law_1310 rfl (lv_at hl 2 rfl) ?_
  refine lv_aload_n hx hb dL_law_1311 rfl (lv_at hl 3 rfl) ?_
  refine lv_iload_n hx hb dL_law_1312 rfl (lv_at hl 0 rfl) ?_
  refine lv_iconst (v := (1 : Int32)) hx hb dL_law_1313 (by decide) ?_
  refine lv_iadd hx hb dL_law_1314 ?_
  refine lv_topi (fun z1 ez1 => ?_)
  obtain rfl : z1 = (1 : Int32) := ez1.trans (by decide)
  refine va_sld hx hb Z.2.2.1 Z.2.2.2 hbA hG.1.2.2 (vp_inL (by decide)) dL_law_1315 ?_
  refine lv_topi (fun z2 ez2 => ?_)
  obtain rfl : z2 = sc 1 := ez2.trans (congrArg sc (by decide))
  refine g_ViG C hl.1 (fun _ h => h) hG (As := [.int (sc 1)]) (rest := []) (k_leaves l E L f mx fx mn fn (sc 1)) my_X9_leaves wd738 mx fx rfl rfl rfl (Nat.le_of_ble_eq_true rfl) ⟨Nat.le_of_ble_eq_true rfl, Nat.le_of_ble_eq_true rfl⟩ ⟨hc, hs⟩ dL_law_1316 (fun r1 L1 f1 H locs hp1 hG => ?_)
  have hG := hG.swap
  refine lv_aload_n hx hb dL_law_1319 rfl (lv_at hl 1 rfl) ?_
  refine lv_aload_n hx hb dL_law_1320 rfl (lv_at hl 3 rfl) ?_
  refine lv_iload_n hx hb dL_law_1321 rfl (lv_at hl 0 rfl) ?_
  refine lv_iconst (v := (1 : Int32)) hx hb dL_law_1322 (by decide) ?_
  refine lv_iadd hx hb dL_law_1323 ?_
  refine lv_topi (fun z3 ez3 => ?_)
  obtain rfl : z3 = (1 : Int32) := ez3.trans (by decide)
  refine va_sld hx hb Z.2.2.1 Z.2.2.2 hbA hG.1.2.2 (vp_inL (by decide)) dL_law_1324 ?_
  refine lv_topi (fun z4 ez4 => ?_)
  obtain rfl : z4 = sc 1 := ez4.trans (congrArg sc (by decide))
  refine g_ViG C hl.1 (fun _ h => h) hG (As := [.int (sc 1)]) (rest := [.int r1]) (m_leaves l E K k my fy am_lines af_lines am_has af_has (sc 1)) my_X10_leaves wd742 my fy rfl rfl rfl (Nat.le_of_ble_eq_true rfl) ⟨Nat.le_of_ble_eq_true rfl, Nat.le_of_ble_eq_true rfl⟩ ⟨hc, hs⟩ dL_law_1325 (fun r2 K1 k1 H locs hp2 hG => ?_)
  have hG := hG.swap
  refine lv_icmp_eq (tgt := 2118) hx hb dL_law_1328 (by decide) (fun _ => ?_) (fun h => absurd (hp1.1.trans hp2.symm) h)
  exact law_tail Z hG.1.2.2 hc hs hl
set_option maxHeartbeats 4000000 in
set_option maxRecDepth 100000 in
theorem law_45 {p : Program} {l : Launch} {e : Env} {s : State} {m : MethodId} {below : List Frame} {meth : Method} {c : Code} {b : Nat} {sc : Nat → Int32} {E : gE} {L K : List Nat} {f k : gF} {x y : Nat} {H : Heap} {locs : List Loc} {cells slots : Nat} {ls : Array Slot} (Z : gLw E p s m meth c b 6 sc) (hG : gG E (fun q : Nat => s.heap.size ≤ q) L f K k s.heap H locs) (hX : gFresh E L f x) (hY : gFreshM E K k y) (hc : cells ≤ 600000) (hs : slots ≤ 7302249) (hl : lv_has ls 4 [(3, .int (0 : Int32)), (2, .ref y), (1, .ref x), (0, .ref b)]) : W p l e room_1 s m #[Value.ref b] below meth c H locs cells slots (lw_Z below #[Value.ref b] s) (F0 m 1333 ls []) := by
  have C := Z.1
  have hx := C.1
  have hb := C.2.1
  have hbA : ¬ (fun q : Nat => s.heap.size ≤ q) b := Nat.not_le.mpr Z.2.2.2
  obtain ⟨xt, xn, xr, xi, xw, xs, xl, xc, xh, xf, xm, xb, xd, lf, ll, na, da, wv, iv, mx, fx, mt, ft, mb, fb, mn, fn, mr, fr, md, fd, ml, fl, mw, fw, mi, fi, mm, fm, gn, gd, hnd, wr, im⟩ := hX
  obtain ⟨ya, wc, my, fy, am_width, af_width, am_many, af_many, am_cells, af_cells, am_tape, af_tape, am_lines, af_lines, am_has, af_has, am_flight, af_flight, am_member, af_member, am_act, af_act, am_isKept, af_isKept, hw⟩ := hY
  refine lv_aload_n hx hb dL_law_1333 rfl (lv_at hl 2 rfl) ?_
  refine lv_aload_n hx hb dL_law_1334 rfl (lv_at hl 3 rfl) ?_
  refine lv_iload_n hx hb dL_law_1335 rfl (lv_at hl 0 rfl) ?_
  refine lv_iconst (v := (1 : Int32)) hx hb dL_law_1336 (by decide) ?_
  refine lv_iadd hx hb dL_law_1337 ?_
  refine lv_topi (fun z1 ez1 => ?_)
  obtain rfl : z1 = (1 : Int32) := ez1.trans (by decide)
  refine va_sld hx hb Z.2.2.1 Z.2.2.2 hbA hG.1.2.2 (vp_inL (by decide)) dL_law_1338 ?_
  refine lv_topi (fun z2 ez2 => ?_)
  obtain rfl : z2 = sc 1 := ez2.trans (congrArg sc (by decide))
  refine lv_aload_n hx hb dL_law_1339 rfl (lv_at hl 3 rfl) ?_
  refine lv_iload_n hx hb dL_law_1340 rfl (lv_at hl 0 rfl) ?_
  refine lv_iconst (v := (2 : Int32)) hx hb dL_law_1341 (by decide) ?_
  refine lv_iadd hx hb dL_law_1342 ?_
  refine lv_topi (fun z3 ez3 => ?_)
  obtain rfl : z3 = (2 : Int32) := ez3.trans (by decide)
  refine va_sld hx hb Z.2.2.1 Z.2.2.2 hbA hG.1.2.2 (vp_inL (by decide)) dL_law_1343 ?_
  refine lv_topi (fun z4 ez4 => ?_)
  obtain rfl : z4 = sc 2 := ez4.trans (congrArg sc (by decide))
  refine lv_aload_n hx hb dL_law_1344 rfl (lv_at hl 3 rfl) ?_
  refine lv_iload_n hx hb dL_law_1345 rfl (lv_at hl 0 rfl) ?_
  refine lv_iconst (v := (3 : Int32)) hx hb dL_law_1346 (by decide) ?_
  refine lv_iadd hx hb dL_law_1347 ?_
  refine lv_topi (fun z5 ez5 => ?_)
  obtain rfl : z5 = (3 : Int32) := ez5.trans (by decide)
  refine va_sld hx hb Z.2.2.1 Z.2.2.2 hbA hG.1.2.2 (vp_inL (by decide)) dL_law_1348 ?_
  refine lv_topi (fun z6 ez6 => ?_)
  obtain rfl : z6 = sc 3 := ez6.trans (congrArg sc (by decide))
  refine g_ViG C hl.1 (fun _ h => h) hG (As := [.int (sc 1), .int (sc 2), .int (sc 3)]) (rest := []) (k_odds l E L f mx fx mn fn (sc 1) (sc 2) (sc 3)) my_X9_odds wd746 mx fx rfl rfl rfl (Nat.le_of_ble_eq_true rfl) ⟨Nat.le_of_ble_eq_true rfl, Nat.le_of_ble_eq_true rfl⟩ ⟨hc, hs⟩ dL_law_1349 (fun r1 L1 f1 H locs hp1 hG => ?_)
  have hG := hG.swap
  refine lv_aload_n hx hb dL_law_1352 rfl (lv_at hl 1 rfl) ?_
  refine lv_aload_n hx hb dL_law_1353 rfl (lv_at hl 3 rfl) ?_
  refine lv_iload_n hx hb dL_law_1354 rfl (lv_at hl 0 rfl) ?_
  refine lv_iconst (v := (1 : Int32)) hx hb dL_law_1355 (by decide) ?_
  refine lv_iadd hx hb dL_law_1356 ?_
  refine lv_topi (fun z7 ez7 => ?_)
  obtain rfl : z7 = (1 : Int32) := ez7.trans (by decide)
  refine va_sld hx hb Z.2.2.1 Z.2.2.2 hbA hG.1.2.2 (vp_inL (by decide)) dL_law_1357 ?_
  refine lv_topi (fun z8 ez8 => ?_)
  obtain rfl : z8 = sc 1 := ez8.trans (congrArg sc (by decide))
  refine lv_aload_n hx hb dL_law_1358 rfl (lv_at hl 3 rfl) ?_
  refine lv_iload_n hx hb dL_law_1359 rfl (lv_at hl 0 rfl) ?_
  refine lv_iconst (v := (2 : Int32)) hx hb dL_law_1360 (by decide) ?_
  refine lv_iadd hx hb dL_law_1361 ?_
  refine lv_topi (fun z9 ez9 => ?_)
  obtain rfl : z9 = (2 : Int32) := ez9.trans (by decide)
  refine va_sld hx hb Z.2.2.1 Z.2.2.2 hbA hG.1.2.2 (vp_inL (by decide)) dL_law_1362 ?_
  refine lv_topi (fun z10 ez10 => ?_)
  obtain rfl : z10 = sc 2 := ez10.trans (congrArg sc (by decide))
  refine lv_aload_n hx hb dL_law_1363 rfl (lv_at hl 3 rfl) ?_
  refine lv_iload_n hx hb dL_law_1364 rfl (lv_at hl 0 rfl) ?_
  refine lv_iconst (v := (3 : Int32)) hx hb dL_law_1365 (by decide) ?_
  refine lv_iadd hx hb dL_law_1366 ?_
  refine lv_topi (fun z11 ez11 => ?_)
  obtain rfl : z11 = (3 : Int32) := ez11.trans (by decide)
  refine va_sld hx hb Z.2.2.1 Z.2.2.2 hbA hG.1.2.2 (vp_inL (by decide)) dL_law_1367 ?_
  refine lv_topi (fun z12 ez12 => ?_)
  obtain rfl : z12 = sc 3 := ez12.trans (congrArg sc (by decide))
  refine g_ViG C hl.1 (fun _ h => h) hG (As := [.int (sc 1), .int (sc 2), .int (sc 3)]) (rest := [.int r1]) (m_odds l E K k my fy am_lines af_lines am_has af_has (sc 1) (sc 2) (sc 3)) my_X10_odds wd750 my fy rfl rfl rfl (Nat.le_of_ble_eq_true rfl) ⟨Nat.le_of_ble_eq_true rfl, Nat.le_of_ble_eq_true rfl⟩ ⟨hc, hs⟩ dL_law_1368 (fun r2 K1 k1 H locs hp2 hG => ?_)
  have hG := hG.swap
  refine lv_icmp_eq (tgt := 2118) hx hb dL_law_1371 (by decide) (fun _ => ?_) (fun h => absurd (hp1.1.trans hp2.symm) h)
  exact law_tail Z hG.1.2.2 hc hs hl
set_option maxHeartbeats 4000000 in
set_option maxRecDepth 100000 in
theorem law_46 {p : Program} {l : Launch} {e : Env} {s : State} {m : MethodId} {below : List Frame} {meth : Method} {c : Code} {b : Nat} {sc : Nat → Int32} {E : gE} {L K : List Nat} {f k : gF} {x y : Nat} {H : Heap} {locs : List Loc} {cells slots : Nat} {ls : Array Slot} (Z : gLw E p s m meth c b 6 sc) (hG : gG E (fun q : Nat => s.heap.size ≤ q) L f K k s.heap H locs) (hX : gFresh E L f x) (hY : gFreshM E K k y) (hc : cells ≤ 600000) (hs : slots ≤ 7302249) (hl : lv_has ls 4 [(3, .int (0 : Int32)), (2, .ref y), (1, .ref x), (0, .ref b)]) : W p l e room_1 s m #[Value.ref b] below meth c H locs cells slots (lw_Z below #[Value.ref b] s) (F0 m 1376 ls []) := by
  have C := Z.1
  have hx := C.1
  have hb := C.2.1
  have hbA : ¬ (fun q : Nat => s.heap.size ≤ q) b := Nat.not_le.mpr Z.2.2.2
  obtain ⟨xt, xn, xr, xi, xw, xs, xl, xc, xh, xf, xm, xb, xd, lf, ll, na, da, wv, iv, mx, fx, mt, ft, mb, fb, mn, fn, mr, fr, md, fd, ml, fl, mw, fw, mi, fi, mm, fm, gn, gd, hnd, wr, im⟩ := hX
  obtain ⟨ya, wc, my, fy, am_width, af_width, am_many, af_many, am_cells, af_cells, am_tape, af_tape, am_lines, af_lines, am_has, af_has, am_flight, af_flight, am_member, af_member, am_act, af_act, am_isKept, af_isKept, hw⟩ := hY
  refine lv_aload_n hx hb dL_law_1376 rfl (lv_at hl 2 rfl) ?_
  refine g_ViG C hl.1 (fun _ h => h) hG (As := []) (rest := []) (k_homes l E L f mx fx mn fn) my_X9_homes wd754 mx fx rfl rfl rfl (Nat.le_of_ble_eq_true rfl) ⟨Nat.le_of_ble_eq_true rfl, Nat.le_of_ble_eq_true rfl⟩ ⟨hc, hs⟩ dL_law_1377 (fun r1 L1 f1 H locs hp1 hG => ?_)
  have hG := hG.swap
  refine lv_aload_n hx hb dL_law_1380 rfl (lv_at hl 1 rfl) ?_
  refine g_ViG C hl.1 (fun _ h => h) hG (As := []) (rest := [.int r1]) (m_homes l E K k my fy am_lines af_lines am_has af_has) my_X10_homes wd758 my fy rfl rfl rfl (Nat.le_of_ble_eq_true rfl) ⟨Nat.le_of_ble_eq_true rfl, Nat.le_of_ble_eq_true rfl⟩ ⟨hc, hs⟩ dL_law_1381 (fun r2 K1 k1 H locs hp2 hG => ?_)
  have hG := hG.swap
  refine lv_icmp_eq (tgt := 2118) hx hb dL_law_1384 (by decide) (fun _ => ?_) (fun h => absurd (hp1.1.trans hp2.symm) h)
  exact law_tail Z hG.1.2.2 hc hs hl
set_option maxHeartbeats 4000000 in
set_option maxRecDepth 100000 in
theorem law_47 {p : Program} {l : Launch} {e : Env} {s : State} {m : MethodId} {below : List Frame} {meth : Method} {c : Code} {b : Nat} {sc : Nat → Int32} {E : gE} {L K : List Nat} {f k : gF} {x y : Nat} {H : Heap} {locs : List Loc} {cells slots : Nat} {ls : Array Slot} (Z : gLw E p s m meth c b 6 sc) (hG : gG E (fun q : Nat => s.heap.size ≤ q) L f K k s.heap H locs) (hX : gFresh E L f x) (hY : gFreshM E K k y) (hc : cells ≤ 600000) (hs : slots ≤ 7302249) (hl : lv_has ls 4 [(3, .int (0 : Int32)), (2, .ref y), (1, .ref x), (0, .ref b)]) : W p l e room_1 s m #[Value.ref b] below meth c H locs cells slots (lw_Z below #[Value.ref b] s) (F0 m 1389 ls []) := by
  have C := Z.1
  have hx := C.1
  have hb := C.2.1
  have hbA : ¬ (fun q : Nat => s.heap.size ≤ q) b := Nat.not_le.mpr Z.2.2.2
  obtain ⟨xt, xn, xr, xi, xw, xs, xl, xc, xh, xf, xm, xb, xd, lf, ll, na, da, wv, iv, mx, fx, mt, ft, mb, fb, mn, fn, mr, fr, md, fd, ml, fl, mw, fw, mi, fi, mm, fm, gn, gd, hnd, wr, im⟩ := hX
  obtain ⟨ya, wc, my, fy, am_width, af_width, am_many, af_many, am_cells, af_cells, am_tape, af_tape, am_lines, af_lines, am_has, af_has, am_flight, af_flight, am_member, af_member, am_act, af_act, am_isKept, af_isKept, hw⟩ := hY
  refine lv_aload_n hx hb dL_law_1389 rfl (lv_at hl 2 rfl) ?_
  refine lv_aload_n hx hb dL_law_1390 rfl (lv_at hl 3 rfl) ?_
  refine lv_iload_n hx hb dL_law_1391 rfl (lv_at hl 0 rfl) ?_
  refine lv_iconst (v := (1 : Int32)) hx hb dL_law_1392 (by decide) ?_
  refine lv_iadd hx hb dL_law_1393 ?_
  refine lv_topi (fun z1 ez1 => ?_)
  obtain rfl : z1 = (1 : Int32) := ez1.trans (by decide)
  refine va_sld hx hb Z.2.2.1 Z.2.2.2 hbA hG.1.2.2 (vp_inL (by decide)) dL_law_1394 ?_
  refine lv_topi (fun z2 ez2 => ?_)
  obtain rfl : z2 = sc 1 := ez2.trans (congrArg sc (by decide))
  refine g_ViG C hl.1 (fun _ h => h) hG (As := [.int (sc 1)]) (rest := []) (k_home l E L f mx fx mn fn (sc 1)) my_X9_home wd762 mx fx rfl rfl rfl (Nat.le_of_ble_eq_true rfl) ⟨Nat.le_of_ble_eq_true rfl, Nat.le_of_ble_eq_true rfl⟩ ⟨hc, hs⟩ dL_law_1395 (fun r1 L1 f1 H locs hp1 hG => ?_)
  have hG := hG.swap
  refine lv_aload_n hx hb dL_law_1398 rfl (lv_at hl 1 rfl) ?_
  refine lv_aload_n hx hb dL_law_1399 rfl (lv_at hl 3 rfl) ?_
  refine lv_iload_n hx hb dL_law_1400 rfl (lv_at hl 0 rfl) ?_
  refine lv_iconst (v := (1 : Int32)) hx hb dL_law_1401 (by decide) ?_
  refine lv_iadd hx hb dL_law_1402 ?_
  refine lv_topi (fun z3 ez3 => ?_)
  obtain rfl : z3 = (1 : Int32) := ez3.trans (by decide)
  refine va_sld hx hb Z.2.2.1 Z.2.2.2 hbA hG.1.2.2 (vp_inL (by decide)) dL_law_1403 ?_
  refine lv_topi (fun z4 ez4 => ?_)
  obtain rfl : z4 = sc 1 := ez4.trans (congrArg sc (by decide))
  refine g_ViG C hl.1 (fun _ h => h) hG (As := [.int (sc 1)]) (rest := [.int r1]) (m_home l E K k my fy am_lines af_lines am_has af_has (sc 1)) my_X10_home wd766 my fy rfl rfl rfl (Nat.le_of_ble_eq_true rfl) ⟨Nat.le_of_ble_eq_true rfl, Nat.le_of_ble_eq_true rfl⟩ ⟨hc, hs⟩ dL_law_1404 (fun r2 K1 k1 H locs hp2 hG => ?_)
  have hG := hG.swap
  refine lv_icmp_eq (tgt := 2118) hx hb dL_law_1407 (by decide) (fun _ => ?_) (fun h => absurd (hp1.1.trans hp2.symm) h)
  exact law_tail Z hG.1.2.2 hc hs hl
set_option maxHeartbeats 4000000 in
set_option maxRecDepth 100000 in
theorem law_48 {p : Program} {l : Launch} {e : Env} {s : State} {m : MethodId} {below : List Frame} {meth : Method} {c : Code} {b : Nat} {sc : Nat → Int32} {E : gE} {L K : List Nat} {f k : gF} {x y : Nat} {H : Heap} {locs : List Loc} {cells slots : Nat} {ls : Array Slot} (Z : gLw E p s m meth c b 6 sc) (hG : gG E (fun q : Nat => s.heap.size ≤ q) L f K k s.heap H locs) (hX : gFresh E L f x) (hY : gFreshM E K k y) (hc : cells ≤ 600000) (hs : slots ≤ 7302249) (hl : lv_has ls 4 [(3, .int (0 : Int32)), (2, .ref y), (1, .ref x), (0, .ref b)]) : W p l e room_1 s m #[Value.ref b] below meth c H locs cells slots (lw_Z below #[Value.ref b] s) (F0 m 1412 ls []) := by
  have C := Z.1
  have hx := C.1
  have hb := C.2.1
  have hbA : ¬ (fun q : Nat => s.heap.size ≤ q) b := Nat.not_le.mpr Z.2.2.2
  obtain ⟨xt, xn, xr, xi, xw, xs, xl, xc, xh, xf, xm, xb, xd, lf, ll, na, da, wv, iv, mx, fx, mt, ft, mb, fb, mn, fn, mr, fr, md, fd, ml, fl, mw, fw, mi, fi, mm, fm, gn, gd, hnd, wr, im⟩ := hX
  obtain ⟨ya, wc, my, fy, am_width, af_width, am_many, af_many, am_cells, af_cells, am_tape, af_tape, am_lines, af_lines, am_has, af_has, am_flight, af_flight, am_member, af_member, am_act, af_act, am_isKept, af_isKept, hw⟩ := hY
  refine lv_aload_n hx hb dL_law_1412 rfl (lv_at hl 2 rfl) ?_
  refine g_ViG C hl.1 (fun _ h => h) hG (As := []) (rest := []) (k_swaps l E L f mx fx mn fn) my_X9_swaps wd770 mx fx rfl rfl rfl (Nat.le_of_ble_eq_true rfl) ⟨Nat.le_of_ble_eq_true rfl, Nat.le_of_ble_eq_true rfl⟩ ⟨hc, hs⟩ dL_law_1413 (fun r1 L1 f1 H locs hp1 hG => ?_)
  have hG := hG.swap
  refine lv_aload_n hx hb dL_law_1416 rfl (lv_at hl 1 rfl) ?_
  refine g_ViG C hl.1 (fun _ h => h) hG (As := []) (rest := [.int r1]) (m_swaps l E K k my fy am_lines af_lines am_has af_has) my_X10_swaps wd774 my fy rfl rfl rfl (Nat.le_of_ble_eq_true rfl) ⟨Nat.le_of_ble_eq_true rfl, Nat.le_of_ble_eq_true rfl⟩ ⟨hc, hs⟩ dL_law_1417 (fun r2 K1 k1 H locs hp2 hG => ?_)
  have hG := hG.swap
  refine lv_icmp_eq (tgt := 2118) hx hb dL_law_1420 (by decide) (fun _ => ?_) (fun h => absurd (hp1.1.trans hp2.symm) h)
  exact law_tail Z hG.1.2.2 hc hs hl
set_option maxHeartbeats 4000000 in
set_option maxRecDepth 100000 in
theorem law_49 {p : Program} {l : Launch} {e : Env} {s : State} {m : MethodId} {below : List Frame} {meth : Method} {c : Code} {b : Nat} {sc : Nat → Int32} {E : gE} {L K : List Nat} {f k : gF} {x y : Nat} {H : Heap} {locs : List Loc} {cells slots : Nat} {ls : Array Slot} (Z : gLw E p s m meth c b 6 sc) (hG : gG E (fun q : Nat => s.heap.size ≤ q) L f K k s.heap H locs) (hX : gFresh E L f x) (hY : gFreshM E K k y) (hc : cells ≤ 600000) (hs : slots ≤ 7302249) (hl : lv_has ls 4 [(3, .int (0 : Int32)), (2, .ref y), (1, .ref x), (0, .ref b)]) : W p l e room_1 s m #[Value.ref b] below meth c H locs cells slots (lw_Z below #[Value.ref b] s) (F0 m 1425 ls []) := by
  have C := Z.1
  have hx := C.1
  have hb := C.2.1
  have hbA : ¬ (fun q : Nat => s.heap.size ≤ q) b := Nat.not_le.mpr Z.2.2.2
  obtain ⟨xt, xn, xr, xi, xw, xs, xl, xc, xh, xf, xm, xb, xd, lf, ll, na, da, wv, iv, mx, fx, mt, ft, mb, fb, mn, fn, mr, fr, md, fd, ml, fl, mw, fw, mi, fi, mm, fm, gn, gd, hnd, wr, im⟩ := hX
  obtain ⟨ya, wc, my, fy, am_width, af_width, am_many, af_many, am_cells, af_cells, am_tape, af_tape, am_lines, af_lines, am_has, af_has, am_flight, af_flight, am_member, af_member, am_act, af_act, am_isKept, af_isKept, hw⟩ := hY
  refine lv_aload_n hx hb dL_law_1425 rfl (lv_at hl 2 rfl) ?_
  refine g_ViG C hl.1 (fun _ h => h) hG (As := []) (rest := []) (k_swap l E L f mx fx mn fn) my_X9_swap wd778 mx fx rfl rfl rfl (Nat.le_of_ble_eq_true rfl) ⟨Nat.le_of_ble_eq_true rfl, Nat.le_of_ble_eq_true rfl⟩ ⟨hc, hs⟩ dL_law_1426 (fun r1 L1 f1 H locs hp1 hG => ?_)
  have hG := hG.swap
  refine lv_aload_n hx hb dL_law_1429 rfl (lv_at hl 1 rfl) ?_
  refine g_ViG C hl.1 (fun _ h => h) hG (As := []) (rest := [.int r1]) (m_swap l E K k my fy am_lines af_lines am_has af_has) my_X10_swap wd782 my fy rfl rfl rfl (Nat.le_of_ble_eq_true rfl) ⟨Nat.le_of_ble_eq_true rfl, Nat.le_of_ble_eq_true rfl⟩ ⟨hc, hs⟩ dL_law_1430 (fun r2 K1 k1 H locs hp2 hG => ?_)
  have hG := hG.swap
  refine lv_icmp_eq (tgt := 2118) hx hb dL_law_1433 (by decide) (fun _ => ?_) (fun h => absurd (hp1.1.trans hp2.symm) h)
  exact law_tail Z hG.1.2.2 hc hs hl
set_option maxHeartbeats 4000000 in
set_option maxRecDepth 100000 in
theorem law_50 {p : Program} {l : Launch} {e : Env} {s : State} {m : MethodId} {below : List Frame} {meth : Method} {c : Code} {b : Nat} {sc : Nat → Int32} {E : gE} {L K : List Nat} {f k : gF} {x y : Nat} {H : Heap} {locs : List Loc} {cells slots : Nat} {ls : Array Slot} (Z : gLw E p s m meth c b 6 sc) (hG : gG E (fun q : Nat => s.heap.size ≤ q) L f K k s.heap H locs) (hX : gFresh E L f x) (hY : gFreshM E K k y) (hc : cells ≤ 600000) (hs : slots ≤ 7302249) (hl : lv_has ls 4 [(3, .int (0 : Int32)), (2, .ref y), (1, .ref x), (0, .ref b)]) : W p l e room_1 s m #[Value.ref b] below meth c H locs cells slots (lw_Z below #[Value.ref b] s) (F0 m 1438 ls []) := by
  have C := Z.1
  have hx := C.1
  have hb := C.2.1
  have hbA : ¬ (fun q : Nat => s.heap.size ≤ q) b := Nat.not_le.mpr Z.2.2.2
  obtain ⟨xt, xn, xr, xi, xw, xs, xl, xc, xh, xf, xm, xb, xd, lf, ll, na, da, wv, iv, mx, fx, mt, ft, mb, fb, mn, fn, mr, fr, md, fd, ml, fl, mw, fw, mi, fi, mm, fm, gn, gd, hnd, wr, im⟩ := hX
  obtain ⟨ya, wc, my, fy, am_width, af_width, am_many, af_many, am_cells, af_cells, am_tape, af_tape, am_lines, af_lines, am_has, af_has, am_flight, af_flight, am_member, af_member, am_act, af_act, am_isKept, af_isKept, hw⟩ := hY
  refine lv_aload_n hx hb dL_law_1438 rfl (lv_at hl 2 rfl) ?_
  refine lv_aload_n hx hb dL_law_1439 rfl (lv_at hl 3 rfl) ?_
  refine lv_iload_n hx hb dL_law_1440 rfl (lv_at hl 0 rfl) ?_
  refine lv_iconst (v := (1 : Int32)) hx hb dL_law_1441 (by decide) ?_
  refine lv_iadd hx hb dL_law_1442 ?_
  refine lv_topi (fun z1 ez1 => ?_)
  obtain rfl : z1 = (1 : Int32) := ez1.trans (by decide)
  refine va_sld hx hb Z.2.2.1 Z.2.2.2 hbA hG.1.2.2 (vp_inL (by decide)) dL_law_1443 ?_
  refine lv_topi (fun z2 ez2 => ?_)
  obtain rfl : z2 = sc 1 := ez2.trans (congrArg sc (by decide))
  refine g_ViG C hl.1 (fun _ h => h) hG (As := [.int (sc 1)]) (rest := []) (k_price l E L f mx fx mn fn (sc 1)) my_X9_price wd786 mx fx rfl rfl rfl (Nat.le_of_ble_eq_true rfl) ⟨Nat.le_of_ble_eq_true rfl, Nat.le_of_ble_eq_true rfl⟩ ⟨hc, hs⟩ dL_law_1444 (fun r1 L1 f1 H locs hp1 hG => ?_)
  have hG := hG.swap
  refine lv_aload_n hx hb dL_law_1447 rfl (lv_at hl 1 rfl) ?_
  refine lv_aload_n hx hb dL_law_1448 rfl (lv_at hl 3 rfl) ?_
  refine lv_iload_n hx hb dL_law_1449 rfl (lv_at hl 0 rfl) ?_
  refine lv_iconst (v := (1 : Int32)) hx hb dL_law_1450 (by decide) ?_
  refine lv_iadd hx hb dL_law_1451 ?_
  refine lv_topi (fun z3 ez3 => ?_)
  obtain rfl : z3 = (1 : Int32) := ez3.trans (by decide)
  refine va_sld hx hb Z.2.2.1 Z.2.2.2 hbA hG.1.2.2 (vp_inL (by decide)) dL_law_1452 ?_
  refine lv_topi (fun z4 ez4 => ?_)
  obtain rfl : z4 = sc 1 := ez4.trans (congrArg sc (by decide))
  refine g_ViG C hl.1 (fun _ h => h) hG (As := [.int (sc 1)]) (rest := [.int r1]) (m_price l E K k my fy am_lines af_lines am_has af_has (sc 1)) my_X10_price wd790 my fy rfl rfl rfl (Nat.le_of_ble_eq_true rfl) ⟨Nat.le_of_ble_eq_true rfl, Nat.le_of_ble_eq_true rfl⟩ ⟨hc, hs⟩ dL_law_1453 (fun r2 K1 k1 H locs hp2 hG => ?_)
  have hG := hG.swap
  refine lv_icmp_eq (tgt := 2118) hx hb dL_law_1456 (by decide) (fun _ => ?_) (fun h => absurd (hp1.1.trans hp2.symm) h)
  exact law_tail Z hG.1.2.2 hc hs hl
set_option maxHeartbeats 4000000 in
set_option maxRecDepth 100000 in
theorem law_51 {p : Program} {l : Launch} {e : Env} {s : State} {m : MethodId} {below : List Frame} {meth : Method} {c : Code} {b : Nat} {sc : Nat → Int32} {E : gE} {L K : List Nat} {f k : gF} {x y : Nat} {H : Heap} {locs : List Loc} {cells slots : Nat} {ls : Array Slot} (Z : gLw E p s m meth c b 6 sc) (hG : gG E (fun q : Nat => s.heap.size ≤ q) L f K k s.heap H locs) (hX : gFresh E L f x) (hY : gFreshM E K k y) (hc : cells ≤ 600000) (hs : slots ≤ 7302249) (hl : lv_has ls 4 [(3, .int (0 : Int32)), (2, .ref y), (1, .ref x), (0, .ref b)]) : W p l e room_1 s m #[Value.ref b] below meth c H locs cells slots (lw_Z below #[Value.ref b] s) (F0 m 1461 ls []) := by
  have C := Z.1
  have hx := C.1
  have hb := C.2.1
  have hbA : ¬ (fun q : Nat => s.heap.size ≤ q) b := Nat.not_le.mpr Z.2.2.2
  obtain ⟨xt, xn, xr, xi, xw, xs, xl, xc, xh, xf, xm, xb, xd, lf, ll, na, da, wv, iv, mx, fx, mt, ft, mb, fb, mn, fn, mr, fr, md, fd, ml, fl, mw, fw, mi, fi, mm, fm, gn, gd, hnd, wr, im⟩ := hX
  obtain ⟨ya, wc, my, fy, am_width, af_width, am_many, af_many, am_cells, af_cells, am_tape, af_tape, am_lines, af_lines, am_has, af_has, am_flight, af_flight, am_member, af_member, am_act, af_act, am_isKept, af_isKept, hw⟩ := hY
  refine lv_aload_n hx hb dL_law_1461 rfl (lv_at hl 2 rfl) ?_
  refine lv_aload_n hx hb dL_law_1462 rfl (lv_at hl 3 rfl) ?_
  refine lv_iload_n hx hb dL_law_1463 rfl (lv_at hl 0 rfl) ?_
  refine lv_iconst (v := (1 : Int32)) hx hb dL_law_1464 (by decide) ?_
  refine lv_iadd hx hb dL_law_1465 ?_
  refine lv_topi (fun z1 ez1 => ?_)
  obtain rfl : z1 = (1 : Int32) := ez1.trans (by decide)
  refine va_sld hx hb Z.2.2.1 Z.2.2.2 hbA hG.1.2.2 (vp_inL (by decide)) dL_law_1466 ?_
  refine lv_topi (fun z2 ez2 => ?_)
  obtain rfl : z2 = sc 1 := ez2.trans (congrArg sc (by decide))
  refine lv_aload_n hx hb dL_law_1467 rfl (lv_at hl 3 rfl) ?_
  refine lv_iload_n hx hb dL_law_1468 rfl (lv_at hl 0 rfl) ?_
  refine lv_iconst (v := (2 : Int32)) hx hb dL_law_1469 (by decide) ?_
  refine lv_iadd hx hb dL_law_1470 ?_
  refine lv_topi (fun z3 ez3 => ?_)
  obtain rfl : z3 = (2 : Int32) := ez3.trans (by decide)
  refine va_sld hx hb Z.2.2.1 Z.2.2.2 hbA hG.1.2.2 (vp_inL (by decide)) dL_law_1471 ?_
  refine lv_topi (fun z4 ez4 => ?_)
  obtain rfl : z4 = sc 2 := ez4.trans (congrArg sc (by decide))
  refine g_ViG C hl.1 (fun _ h => h) hG (As := [.int (sc 1), .int (sc 2)]) (rest := []) (k_cut l E L f mx fx mn fn (sc 1) (sc 2)) my_X9_cut wd794 mx fx rfl rfl rfl (Nat.le_of_ble_eq_true rfl) ⟨Nat.le_of_ble_eq_true rfl, Nat.le_of_ble_eq_true rfl⟩ ⟨hc, hs⟩ dL_law_1472 (fun r1 L1 f1 H locs hp1 hG => ?_)
  have hG := hG.swap
  refine lv_aload_n hx hb dL_law_1475 rfl (lv_at hl 1 rfl) ?_
  refine lv_aload_n hx hb dL_law_1476 rfl (lv_at hl 3 rfl) ?_
  refine lv_iload_n hx hb dL_law_1477 rfl (lv_at hl 0 rfl) ?_
  refine lv_iconst (v := (1 : Int32)) hx hb dL_law_1478 (by decide) ?_
  refine lv_iadd hx hb dL_law_1479 ?_
  refine lv_topi (fun z5 ez5 => ?_)
  obtain rfl : z5 = (1 : Int32) := ez5.trans (by decide)
  refine va_sld hx hb Z.2.2.1 Z.2.2.2 hbA hG.1.2.2 (vp_inL (by decide)) dL_law_1480 ?_
  refine lv_topi (fun z6 ez6 => ?_)
  obtain rfl : z6 = sc 1 := ez6.trans (congrArg sc (by decide))
  refine lv_aload_n hx hb dL_law_1481 rfl (lv_at hl 3 rfl) ?_
  refine lv_iload_n hx hb dL_law_1482 rfl (lv_at hl 0 rfl) ?_
  refine lv_iconst (v := (2 : Int32)) hx hb dL_law_1483 (by decide) ?_
  refine lv_iadd hx hb dL_law_1484 ?_
  refine lv_topi (fun z7 ez7 => ?_)
  obtain rfl : z7 = (2 : Int32) := ez7.trans (by decide)
  refine va_sld hx hb Z.2.2.1 Z.2.2.2 hbA hG.1.2.2 (vp_inL (by decide)) dL_law_1485 ?_
  refine lv_topi (fun z8 ez8 => ?_)
  obtain rfl : z8 = sc 2 := ez8.trans (congrArg sc (by decide))
  refine g_ViG C hl.1 (fun _ h => h) hG (As := [.int (sc 1), .int (sc 2)]) (rest := [.int r1]) (m_cut l E K k my fy am_lines af_lines am_has af_has (sc 1) (sc 2)) my_X10_cut_ wd798 my fy rfl rfl rfl (Nat.le_of_ble_eq_true rfl) ⟨Nat.le_of_ble_eq_true rfl, Nat.le_of_ble_eq_true rfl⟩ ⟨hc, hs⟩ dL_law_1486 (fun r2 K1 k1 H locs hp2 hG => ?_)
  have hG := hG.swap
  refine lv_icmp_eq (tgt := 2118) hx hb dL_law_1489 (by decide) (fun _ => ?_) (fun h => absurd (hp1.1.trans hp2.symm) h)
  exact law_tail Z hG.1.2.2 hc hs hl
set_option maxHeartbeats 4000000 in
set_option maxRecDepth 100000 in
theorem law_52 {p : Program} {l : Launch} {e : Env} {s : State} {m : MethodId} {below : List Frame} {meth : Method} {c : Code} {b : Nat} {sc : Nat → Int32} {E : gE} {L K : List Nat} {f k : gF} {x y : Nat} {H : Heap} {locs : List Loc} {cells slots : Nat} {ls : Array Slot} (Z : gLw E p s m meth c b 6 sc) (hG : gG E (fun q : Nat => s.heap.size ≤ q) L f K k s.heap H locs) (hX : gFresh E L f x) (hY : gFreshM E K k y) (hc : cells ≤ 600000) (hs : slots ≤ 7302249) (hl : lv_has ls 4 [(3, .int (0 : Int32)), (2, .ref y), (1, .ref x), (0, .ref b)]) : W p l e room_1 s m #[Value.ref b] below meth c H locs cells slots (lw_Z below #[Value.ref b] s) (F0 m 1494 ls []) := by
  have C := Z.1
  have hx := C.1
  have hb := C.2.1
  have hbA : ¬ (fun q : Nat => s.heap.size ≤ q) b := Nat.not_le.mpr Z.2.2.2
  obtain ⟨xt, xn, xr, xi, xw, xs, xl, xc, xh, xf, xm, xb, xd, lf, ll, na, da, wv, iv, mx, fx, mt, ft, mb, fb, mn, fn, mr, fr, md, fd, ml, fl, mw, fw, mi, fi, mm, fm, gn, gd, hnd, wr, im⟩ := hX
  obtain ⟨ya, wc, my, fy, am_width, af_width, am_many, af_many, am_cells, af_cells, am_tape, af_tape, am_lines, af_lines, am_has, af_has, am_flight, af_flight, am_member, af_member, am_act, af_act, am_isKept, af_isKept, hw⟩ := hY
  refine lv_aload_n hx hb dL_law_1494 rfl (lv_at hl 2 rfl) ?_
  refine lv_aload_n hx hb dL_law_1495 rfl (lv_at hl 3 rfl) ?_
  refine lv_iload_n hx hb dL_law_1496 rfl (lv_at hl 0 rfl) ?_
  refine lv_iconst (v := (1 : Int32)) hx hb dL_law_1497 (by decide) ?_
  refine lv_iadd hx hb dL_law_1498 ?_
  refine lv_topi (fun z1 ez1 => ?_)
  obtain rfl : z1 = (1 : Int32) := ez1.trans (by decide)
  refine va_sld hx hb Z.2.2.1 Z.2.2.2 hbA hG.1.2.2 (vp_inL (by decide)) dL_law_1499 ?_
  refine lv_topi (fun z2 ez2 => ?_)
  obtain rfl : z2 = sc 1 := ez2.trans (congrArg sc (by decide))
  refine lv_aload_n hx hb dL_law_1500 rfl (lv_at hl 3 rfl) ?_
  refine lv_iload_n hx hb dL_law_1501 rfl (lv_at hl 0 rfl) ?_
  refine lv_iconst (v := (2 : Int32)) hx hb dL_law_1502 (by decide) ?_
  refine lv_iadd hx hb dL_law_1503 ?_
  refine lv_topi (fun z3 ez3 => ?_)
  obtain rfl : z3 = (2 : Int32) := ez3.trans (by decide)
  refine va_sld hx hb Z.2.2.1 Z.2.2.2 hbA hG.1.2.2 (vp_inL (by decide)) dL_law_1504 ?_
  refine lv_topi (fun z4 ez4 => ?_)
  obtain rfl : z4 = sc 2 := ez4.trans (congrArg sc (by decide))
  refine g_ViG C hl.1 (fun _ h => h) hG (As := [.int (sc 1), .int (sc 2)]) (rest := []) (k_rests l E L f mx fx mn fn (sc 1) (sc 2)) my_X9_rests wd802 mx fx rfl rfl rfl (Nat.le_of_ble_eq_true rfl) ⟨Nat.le_of_ble_eq_true rfl, Nat.le_of_ble_eq_true rfl⟩ ⟨hc, hs⟩ dL_law_1505 (fun r1 L1 f1 H locs hp1 hG => ?_)
  have hG := hG.swap
  refine lv_aload_n hx hb dL_law_1508 rfl (lv_at hl 1 rfl) ?_
  refine lv_aload_n hx hb dL_law_1509 rfl (lv_at hl 3 rfl) ?_
  refine lv_iload_n hx hb dL_law_1510 rfl (lv_at hl 0 rfl) ?_
  refine lv_iconst (v := (1 : Int32)) hx hb dL_law_1511 (by decide) ?_
  refine lv_iadd hx hb dL_law_1512 ?_
  refine lv_topi (fun z5 ez5 => ?_)
  obtain rfl : z5 = (1 : Int32) := ez5.trans (by decide)
  refine va_sld hx hb Z.2.2.1 Z.2.2.2 hbA hG.1.2.2 (vp_inL (by decide)) dL_law_1513 ?_
  refine lv_topi (fun z6 ez6 => ?_)
  obtain rfl : z6 = sc 1 := ez6.trans (congrArg sc (by decide))
  refine lv_aload_n hx hb dL_law_1514 rfl (lv_at hl 3 rfl) ?_
  refine lv_iload_n hx hb dL_law_1515 rfl (lv_at hl 0 rfl) ?_
  refine lv_iconst (v := (2 : Int32)) hx hb dL_law_1516 (by decide) ?_
  refine lv_iadd hx hb dL_law_1517 ?_
  refine lv_topi (fun z7 ez7 => ?_)
  obtain rfl : z7 = (2 : Int32) := ez7.trans (by decide)
  refine va_sld hx hb Z.2.2.1 Z.2.2.2 hbA hG.1.2.2 (vp_inL (by decide)) dL_law_1518 ?_
  refine lv_topi (fun z8 ez8 => ?_)
  obtain rfl : z8 = sc 2 := ez8.trans (congrArg sc (by decide))
  refine g_ViG C hl.1 (fun _ h => h) hG (As := [.int (sc 1), .int (sc 2)]) (rest := [.int r1]) (m_rests l E K k my fy am_lines af_lines am_has af_has (sc 1) (sc 2)) my_X10_rests wd806 my fy rfl rfl rfl (Nat.le_of_ble_eq_true rfl) ⟨Nat.le_of_ble_eq_true rfl, Nat.le_of_ble_eq_true rfl⟩ ⟨hc, hs⟩ dL_law_1519 (fun r2 K1 k1 H locs hp2 hG => ?_)
  have hG := hG.swap
  refine lv_icmp_eq (tgt := 2118) hx hb dL_law_1522 (by decide) (fun _ => ?_) (fun h => absurd (hp1.1.trans hp2.symm) h)
  exact law_tail Z hG.1.2.2 hc hs hl
set_option maxHeartbeats 4000000 in
set_option maxRecDepth 100000 in
theorem law_53 {p : Program} {l : Launch} {e : Env} {s : State} {m : MethodId} {below : List Frame} {meth : Method} {c : Code} {b : Nat} {sc : Nat → Int32} {E : gE} {L K : List Nat} {f k : gF} {x y : Nat} {H : Heap} {locs : List Loc} {cells slots : Nat} {ls : Array Slot} (Z : gLw E p s m meth c b 6 sc) (hG : gG E (fun q : Nat => s.heap.size ≤ q) L f K k s.heap H locs) (hX : gFresh E L f x) (hY : gFreshM E K k y) (hc : cells ≤ 600000) (hs : slots ≤ 7302249) (hl : lv_has ls 4 [(3, .int (0 : Int32)), (2, .ref y), (1, .ref x), (0, .ref b)]) : W p l e room_1 s m #[Value.ref b] below meth c H locs cells slots (lw_Z below #[Value.ref b] s) (F0 m 1527 ls []) := by
  have C := Z.1
  have hx := C.1
  have hb := C.2.1
  have hbA : ¬ (fun q : Nat => s.heap.size ≤ q) b := Nat.not_le.mpr Z.2.2.2
  obtain ⟨xt, xn, xr, xi, xw, xs, xl, xc, xh, xf, xm, xb, xd, lf, ll, na, da, wv, iv, mx, fx, mt, ft, mb, fb, mn, fn, mr, fr, md, fd, ml, fl, mw, fw, mi, fi, mm, fm, gn, gd, hnd, wr, im⟩ := hX
  obtain ⟨ya, wc, my, fy, am_width, af_width, am_many, af_many, am_cells, af_cells, am_tape, af_tape, am_lines, af_lines, am_has, af_has, am_flight, af_flight, am_member, af_member, am_act, af_act, am_isKept, af_isKept, hw⟩ := hY
  refine lv_aload_n hx hb dL_law_1527 rfl (lv_at hl 2 rfl) ?_
  refine lv_aload_n hx hb dL_law_1528 rfl (lv_at hl 3 rfl) ?_
  refine lv_iload_n hx hb dL_law_1529 rfl (lv_at hl 0 rfl) ?_
  refine lv_iconst (v := (1 : Int32)) hx hb dL_law_1530 (by decide) ?_
  refine lv_iadd hx hb dL_law_1531 ?_
  refine lv_topi (fun z1 ez1 => ?_)
  obtain rfl : z1 = (1 : Int32) := ez1.trans (by decide)
  refine va_sld hx hb Z.2.2.1 Z.2.2.2 hbA hG.1.2.2 (vp_inL (by decide)) dL_law_1532 ?_
  refine lv_topi (fun z2 ez2 => ?_)
  obtain rfl : z2 = sc 1 := ez2.trans (congrArg sc (by decide))
  refine lv_aload_n hx hb dL_law_1533 rfl (lv_at hl 3 rfl) ?_
  refine lv_iload_n hx hb dL_law_1534 rfl (lv_at hl 0 rfl) ?_
  refine lv_iconst (v := (2 : Int32)) hx hb dL_law_1535 (by decide) ?_
  refine lv_iadd hx hb dL_law_1536 ?_
  refine lv_topi (fun z3 ez3 => ?_)
  obtain rfl : z3 = (2 : Int32) := ez3.trans (by decide)
  refine va_sld hx hb Z.2.2.1 Z.2.2.2 hbA hG.1.2.2 (vp_inL (by decide)) dL_law_1537 ?_
  refine lv_topi (fun z4 ez4 => ?_)
  obtain rfl : z4 = sc 2 := ez4.trans (congrArg sc (by decide))
  refine lv_aload_n hx hb dL_law_1538 rfl (lv_at hl 3 rfl) ?_
  refine lv_iload_n hx hb dL_law_1539 rfl (lv_at hl 0 rfl) ?_
  refine lv_iconst (v := (3 : Int32)) hx hb dL_law_1540 (by decide) ?_
  refine lv_iadd hx hb dL_law_1541 ?_
  refine lv_topi (fun z5 ez5 => ?_)
  obtain rfl : z5 = (3 : Int32) := ez5.trans (by decide)
  refine va_sld hx hb Z.2.2.1 Z.2.2.2 hbA hG.1.2.2 (vp_inL (by decide)) dL_law_1542 ?_
  refine lv_topi (fun z6 ez6 => ?_)
  obtain rfl : z6 = sc 3 := ez6.trans (congrArg sc (by decide))
  refine lv_aload_n hx hb dL_law_1543 rfl (lv_at hl 3 rfl) ?_
  refine lv_iload_n hx hb dL_law_1544 rfl (lv_at hl 0 rfl) ?_
  refine lv_iconst (v := (4 : Int32)) hx hb dL_law_1545 (by decide) ?_
  refine lv_iadd hx hb dL_law_1546 ?_
  refine lv_topi (fun z7 ez7 => ?_)
  obtain rfl : z7 = (4 : Int32) := ez7.trans (by decide)
  refine va_sld hx hb Z.2.2.1 Z.2.2.2 hbA hG.1.2.2 (vp_inL (by decide)) dL_law_1547 ?_
  refine lv_topi (fun z8 ez8 => ?_)
  obtain rfl : z8 = sc 4 := ez8.trans (congrArg sc (by decide))
  refine g_ViG C hl.1 (fun _ h => h) hG (As := [.int (sc 1), .int (sc 2), .int (sc 3), .int (sc 4)]) (rest := []) (k_has l E L f mx fx mn fn (sc 1) (sc 2) (sc 3) (sc 4)) my_X9_has wd810 mx fx rfl rfl rfl (Nat.le_of_ble_eq_true rfl) ⟨Nat.le_of_ble_eq_true rfl, Nat.le_of_ble_eq_true rfl⟩ ⟨hc, hs⟩ dL_law_1548 (fun r1 L1 f1 H locs hp1 hG => ?_)
  have hG := hG.swap
  refine lv_aload_n hx hb dL_law_1551 rfl (lv_at hl 1 rfl) ?_
  refine lv_aload_n hx hb dL_law_1552 rfl (lv_at hl 3 rfl) ?_
  refine lv_iload_n hx hb dL_law_1553 rfl (lv_at hl 0 rfl) ?_
  refine lv_iconst (v := (1 : Int32)) hx hb dL_law_1554 (by decide) ?_
  refine lv_iadd hx hb dL_law_1555 ?_
  refine lv_topi (fun z9 ez9 => ?_)
  obtain rfl : z9 = (1 : Int32) := ez9.trans (by decide)
  refine va_sld hx hb Z.2.2.1 Z.2.2.2 hbA hG.1.2.2 (vp_inL (by decide)) dL_law_1556 ?_
  refine lv_topi (fun z10 ez10 => ?_)
  obtain rfl : z10 = sc 1 := ez10.trans (congrArg sc (by decide))
  refine lv_aload_n hx hb dL_law_1557 rfl (lv_at hl 3 rfl) ?_
  refine lv_iload_n hx hb dL_law_1558 rfl (lv_at hl 0 rfl) ?_
  refine lv_iconst (v := (2 : Int32)) hx hb dL_law_1559 (by decide) ?_
  refine lv_iadd hx hb dL_law_1560 ?_
  refine lv_topi (fun z11 ez11 => ?_)
  obtain rfl : z11 = (2 : Int32) := ez11.trans (by decide)
  refine va_sld hx hb Z.2.2.1 Z.2.2.2 hbA hG.1.2.2 (vp_inL (by decide)) dL_law_1561 ?_
  refine lv_topi (fun z12 ez12 => ?_)
  obtain rfl : z12 = sc 2 := ez12.trans (congrArg sc (by decide))
  refine lv_aload_n hx hb dL_law_1562 rfl (lv_at hl 3 rfl) ?_
  refine lv_iload_n hx hb dL_law_1563 rfl (lv_at hl 0 rfl) ?_
  refine lv_iconst (v := (3 : Int32)) hx hb dL_law_1564 (by decide) ?_
  refine lv_iadd hx hb dL_law_1565 ?_
  refine lv_topi (fun z13 ez13 => ?_)
  obtain rfl : z13 = (3 : Int32) := ez13.trans (by decide)
  refine va_sld hx hb Z.2.2.1 Z.2.2.2 hbA hG.1.2.2 (vp_inL (by decide)) dL_law_1566 ?_
  refine lv_topi (fun z14 ez14 => ?_)
  obtain rfl : z14 = sc 3 := ez14.trans (congrArg sc (by decide))
  refine lv_aload_n hx hb dL_law_1567 rfl (lv_at hl 3 rfl) ?_
  refine lv_iload_n hx hb dL_law_1568 rfl (lv_at hl 0 rfl) ?_
  refine lv_iconst (v := (4 : Int32)) hx hb dL_law_1569 (by decide) ?_
  refine lv_iadd hx hb dL_law_1570 ?_
  refine lv_topi (fun z15 ez15 => ?_)
  obtain rfl : z15 = (4 : Int32) := ez15.trans (by decide)
  refine va_sld hx hb Z.2.2.1 Z.2.2.2 hbA hG.1.2.2 (vp_inL (by decide)) dL_law_1571 ?_
  refine lv_topi (fun z16 ez16 => ?_)
  obtain rfl : z16 = sc 4 := ez16.trans (congrArg sc (by decide))
  refine g_ViG C hl.1 (fun _ h => h) hG (As := [.int (sc 1), .int (sc 2), .int (sc 3), .int (sc 4)]) (rest := [.int r1]) (m_has l E K k my fy am_lines af_lines am_has af_has (sc 1) (sc 2) (sc 3) (sc 4)) my_X10_has wd814 my fy rfl rfl rfl (Nat.le_of_ble_eq_true rfl) ⟨Nat.le_of_ble_eq_true rfl, Nat.le_of_ble_eq_true rfl⟩ ⟨hc, hs⟩ dL_law_1572 (fun r2 K1 k1 H locs hp2 hG => ?_)
  have hG := hG.swap
  refine lv_icmp_eq (tgt := 2118) hx hb dL_law_1575 (by decide) (fun _ => ?_) (fun h => absurd (hp1.1.trans hp2.symm) h)
  exact law_tail Z hG.1.2.2 hc hs hl
set_option maxHeartbeats 4000000 in
set_option maxRecDepth 100000 in
theorem law_54 {p : Program} {l : Launch} {e : Env} {s : State} {m : MethodId} {below : List Frame} {meth : Method} {c : Code} {b : Nat} {sc : Nat → Int32} {E : gE} {L K : List Nat} {f k : gF} {x y : Nat} {H : Heap} {locs : List Loc} {cells slots : Nat} {ls : Array Slot} (Z : gLw E p s m meth c b 6 sc) (hG : gG E (fun q : Nat => s.heap.size ≤ q) L f K k s.heap H locs) (hX : gFresh E L f x) (hY : gFreshM E K k y) (hc : cells ≤ 600000) (hs : slots ≤ 7302249) (hl : lv_has ls 4 [(3, .int (0 : Int32)), (2, .ref y), (1, .ref x), (0, .ref b)]) : W p l e room_1 s m #[Value.ref b] below meth c H locs cells slots (lw_Z below #[Value.ref b] s) (F0 m 1580 ls []) := by
  have C := Z.1
  have hx := C.1
  have hb := C.2.1
  have hbA : ¬ (fun q : Nat => s.heap.size ≤ q) b := Nat.not_le.mpr Z.2.2.2
  obtain ⟨xt, xn, xr, xi, xw, xs, xl, xc, xh, xf, xm, xb, xd, lf, ll, na, da, wv, iv, mx, fx, mt, ft, mb, fb, mn, fn, mr, fr, md, fd, ml, fl, mw, fw, mi, fi, mm, fm, gn, gd, hnd, wr, im⟩ := hX
  obtain ⟨ya, wc, my, fy, am_width, af_width, am_many, af_many, am_cells, af_cells, am_tape, af_tape, am_lines, af_lines, am_has, af_has, am_flight, af_flight, am_member, af_member, am_act, af_act, am_isKept, af_isKept, hw⟩ := hY
  refine lv_aload_n hx hb dL_law_1580 rfl (lv_at hl 2 rfl) ?_
  refine lv_aload_n hx hb dL_law_1581 rfl (lv_at hl 3 rfl) ?_
  refine lv_iload_n hx hb dL_law_1582 rfl (lv_at hl 0 rfl) ?_
  refine lv_iconst (v := (1 : Int32)) hx hb dL_law_1583 (by decide) ?_
  refine lv_iadd hx hb dL_law_1584 ?_
  refine lv_topi (fun z1 ez1 => ?_)
  obtain rfl : z1 = (1 : Int32) := ez1.trans (by decide)
  refine va_sld hx hb Z.2.2.1 Z.2.2.2 hbA hG.1.2.2 (vp_inL (by decide)) dL_law_1585 ?_
  refine lv_topi (fun z2 ez2 => ?_)
  obtain rfl : z2 = sc 1 := ez2.trans (congrArg sc (by decide))
  refine lv_aload_n hx hb dL_law_1586 rfl (lv_at hl 3 rfl) ?_
  refine lv_iload_n hx hb dL_law_1587 rfl (lv_at hl 0 rfl) ?_
  refine lv_iconst (v := (2 : Int32)) hx hb dL_law_1588 (by decide) ?_
  refine lv_iadd hx hb dL_law_1589 ?_
  refine lv_topi (fun z3 ez3 => ?_)
  obtain rfl : z3 = (2 : Int32) := ez3.trans (by decide)
  refine va_sld hx hb Z.2.2.1 Z.2.2.2 hbA hG.1.2.2 (vp_inL (by decide)) dL_law_1590 ?_
  refine lv_topi (fun z4 ez4 => ?_)
  obtain rfl : z4 = sc 2 := ez4.trans (congrArg sc (by decide))
  refine g_ViG C hl.1 (fun _ h => h) hG (As := [.int (sc 1), .int (sc 2)]) (rest := []) (k_chance l E L f mx fx mn fn (sc 1) (sc 2)) my_X9_chance wd818 mx fx rfl rfl rfl (Nat.le_of_ble_eq_true rfl) ⟨Nat.le_of_ble_eq_true rfl, Nat.le_of_ble_eq_true rfl⟩ ⟨hc, hs⟩ dL_law_1591 (fun r1 L1 f1 H locs hp1 hG => ?_)
  have hG := hG.swap
  refine lv_aload_n hx hb dL_law_1594 rfl (lv_at hl 1 rfl) ?_
  refine lv_aload_n hx hb dL_law_1595 rfl (lv_at hl 3 rfl) ?_
  refine lv_iload_n hx hb dL_law_1596 rfl (lv_at hl 0 rfl) ?_
  refine lv_iconst (v := (1 : Int32)) hx hb dL_law_1597 (by decide) ?_
  refine lv_iadd hx hb dL_law_1598 ?_
  refine lv_topi (fun z5 ez5 => ?_)
  obtain rfl : z5 = (1 : Int32) := ez5.trans (by decide)
  refine va_sld hx hb Z.2.2.1 Z.2.2.2 hbA hG.1.2.2 (vp_inL (by decide)) dL_law_1599 ?_
  refine lv_topi (fun z6 ez6 => ?_)
  obtain rfl : z6 = sc 1 := ez6.trans (congrArg sc (by decide))
  refine lv_aload_n hx hb dL_law_1600 rfl (lv_at hl 3 rfl) ?_
  refine lv_iload_n hx hb dL_law_1601 rfl (lv_at hl 0 rfl) ?_
  refine lv_iconst (v := (2 : Int32)) hx hb dL_law_1602 (by decide) ?_
  refine lv_iadd hx hb dL_law_1603 ?_
  refine lv_topi (fun z7 ez7 => ?_)
  obtain rfl : z7 = (2 : Int32) := ez7.trans (by decide)
  refine va_sld hx hb Z.2.2.1 Z.2.2.2 hbA hG.1.2.2 (vp_inL (by decide)) dL_law_1604 ?_
  refine lv_topi (fun z8 ez8 => ?_)
  obtain rfl : z8 = sc 2 := ez8.trans (congrArg sc (by decide))
  refine g_ViG C hl.1 (fun _ h => h) hG (As := [.int (sc 1), .int (sc 2)]) (rest := [.int r1]) (m_chance l E K k my fy am_lines af_lines am_has af_has (sc 1) (sc 2)) my_X10_chance wd822 my fy rfl rfl rfl (Nat.le_of_ble_eq_true rfl) ⟨Nat.le_of_ble_eq_true rfl, Nat.le_of_ble_eq_true rfl⟩ ⟨hc, hs⟩ dL_law_1605 (fun r2 K1 k1 H locs hp2 hG => ?_)
  have hG := hG.swap
  refine lv_icmp_eq (tgt := 2118) hx hb dL_law_1608 (by decide) (fun _ => ?_) (fun h => absurd (hp1.1.trans hp2.symm) h)
  exact law_tail Z hG.1.2.2 hc hs hl
set_option maxHeartbeats 4000000 in
set_option maxRecDepth 100000 in
theorem law_55 {p : Program} {l : Launch} {e : Env} {s : State} {m : MethodId} {below : List Frame} {meth : Method} {c : Code} {b : Nat} {sc : Nat → Int32} {E : gE} {L K : List Nat} {f k : gF} {x y : Nat} {H : Heap} {locs : List Loc} {cells slots : Nat} {ls : Array Slot} (Z : gLw E p s m meth c b 6 sc) (hG : gG E (fun q : Nat => s.heap.size ≤ q) L f K k s.heap H locs) (hX : gFresh E L f x) (hY : gFreshM E K k y) (hc : cells ≤ 600000) (hs : slots ≤ 7302249) (hl : lv_has ls 4 [(3, .int (0 : Int32)), (2, .ref y), (1, .ref x), (0, .ref b)]) : W p l e room_1 s m #[Value.ref b] below meth c H locs cells slots (lw_Z below #[Value.ref b] s) (F0 m 1613 ls []) := by
  have C := Z.1
  have hx := C.1
  have hb := C.2.1
  have hbA : ¬ (fun q : Nat => s.heap.size ≤ q) b := Nat.not_le.mpr Z.2.2.2
  obtain ⟨xt, xn, xr, xi, xw, xs, xl, xc, xh, xf, xm, xb, xd, lf, ll, na, da, wv, iv, mx, fx, mt, ft, mb, fb, mn, fn, mr, fr, md, fd, ml, fl, mw, fw, mi, fi, mm, fm, gn, gd, hnd, wr, im⟩ := hX
  obtain ⟨ya, wc, my, fy, am_width, af_width, am_many, af_many, am_cells, af_cells, am_tape, af_tape, am_lines, af_lines, am_has, af_has, am_flight, af_flight, am_member, af_member, am_act, af_act, am_isKept, af_isKept, hw⟩ := hY
  refine lv_aload_n hx hb dL_law_1613 rfl (lv_at hl 2 rfl) ?_
  refine lv_aload_n hx hb dL_law_1614 rfl (lv_at hl 3 rfl) ?_
  refine lv_iload_n hx hb dL_law_1615 rfl (lv_at hl 0 rfl) ?_
  refine lv_iconst (v := (1 : Int32)) hx hb dL_law_1616 (by decide) ?_
  refine lv_iadd hx hb dL_law_1617 ?_
  refine lv_topi (fun z1 ez1 => ?_)
  obtain rfl : z1 = (1 : Int32) := ez1.trans (by decide)
  refine va_sld hx hb Z.2.2.1 Z.2.2.2 hbA hG.1.2.2 (vp_inL (by decide)) dL_law_1618 ?_
  refine lv_topi (fun z2 ez2 => ?_)
  obtain rfl : z2 = sc 1 := ez2.trans (congrArg sc (by decide))
  refine g_ViG C hl.1 (fun _ h => h) hG (As := [.int (sc 1)]) (rest := []) (k_mean l E L f mx fx mn fn (sc 1)) my_X9_mean wd826 mx fx rfl rfl rfl (Nat.le_of_ble_eq_true rfl) ⟨Nat.le_of_ble_eq_true rfl, Nat.le_of_ble_eq_true rfl⟩ ⟨hc, hs⟩ dL_law_1619 (fun r1 L1 f1 H locs hp1 hG => ?_)
  have hG := hG.swap
  refine lv_aload_n hx hb dL_law_1622 rfl (lv_at hl 1 rfl) ?_
  refine lv_aload_n hx hb dL_law_1623 rfl (lv_at hl 3 rfl) ?_
  refine lv_iload_n hx hb dL_law_1624 rfl (lv_at hl 0 rfl) ?_
  refine lv_iconst (v := (1 : Int32)) hx hb dL_law_1625 (by decide) ?_
  refine lv_iadd hx hb dL_law_1626 ?_
  refine lv_topi (fun z3 ez3 => ?_)
  obtain rfl : z3 = (1 : Int32) := ez3.trans (by decide)
  refine va_sld hx hb Z.2.2.1 Z.2.2.2 hbA hG.1.2.2 (vp_inL (by decide)) dL_law_1627 ?_
  refine lv_topi (fun z4 ez4 => ?_)
  obtain rfl : z4 = sc 1 := ez4.trans (congrArg sc (by decide))
  refine g_ViG C hl.1 (fun _ h => h) hG (As := [.int (sc 1)]) (rest := [.int r1]) (m_mean l E K k my fy am_lines af_lines am_has af_has (sc 1)) my_X10_mean wd830 my fy rfl rfl rfl (Nat.le_of_ble_eq_true rfl) ⟨Nat.le_of_ble_eq_true rfl, Nat.le_of_ble_eq_true rfl⟩ ⟨hc, hs⟩ dL_law_1628 (fun r2 K1 k1 H locs hp2 hG => ?_)
  have hG := hG.swap
  refine lv_icmp_eq (tgt := 2118) hx hb dL_law_1631 (by decide) (fun _ => ?_) (fun h => absurd (hp1.1.trans hp2.symm) h)
  exact law_tail Z hG.1.2.2 hc hs hl
set_option maxHeartbeats 4000000 in
set_option maxRecDepth 100000 in
theorem law_56 {p : Program} {l : Launch} {e : Env} {s : State} {m : MethodId} {below : List Frame} {meth : Method} {c : Code} {b : Nat} {sc : Nat → Int32} {E : gE} {L K : List Nat} {f k : gF} {x y : Nat} {H : Heap} {locs : List Loc} {cells slots : Nat} {ls : Array Slot} (Z : gLw E p s m meth c b 6 sc) (hG : gG E (fun q : Nat => s.heap.size ≤ q) L f K k s.heap H locs) (hX : gFresh E L f x) (hY : gFreshM E K k y) (hc : cells ≤ 600000) (hs : slots ≤ 7302249) (hl : lv_has ls 4 [(3, .int (0 : Int32)), (2, .ref y), (1, .ref x), (0, .ref b)]) : W p l e room_1 s m #[Value.ref b] below meth c H locs cells slots (lw_Z below #[Value.ref b] s) (F0 m 1636 ls []) := by
  have C := Z.1
  have hx := C.1
  have hb := C.2.1
  have hbA : ¬ (fun q : Nat => s.heap.size ≤ q) b := Nat.not_le.mpr Z.2.2.2
  obtain ⟨xt, xn, xr, xi, xw, xs, xl, xc, xh, xf, xm, xb, xd, lf, ll, na, da, wv, iv, mx, fx, mt, ft, mb, fb, mn, fn, mr, fr, md, fd, ml, fl, mw, fw, mi, fi, mm, fm, gn, gd, hnd, wr, im⟩ := hX
  obtain ⟨ya, wc, my, fy, am_width, af_width, am_many, af_many, am_cells, af_cells, am_tape, af_tape, am_lines, af_lines, am_has, af_has, am_flight, af_flight, am_member, af_member, am_act, af_act, am_isKept, af_isKept, hw⟩ := hY
  refine lv_aload_n hx hb dL_law_1636 rfl (lv_at hl 2 rfl) ?_
  refine lv_aload_n hx hb dL_law_1637 rfl (lv_at hl 3 rfl) ?_
  refine lv_iload_n hx hb dL_law_1638 rfl (lv_at hl 0 rfl) ?_
  refine lv_iconst (v := (1 : Int32)) hx hb dL_law_1639 (by decide) ?_
  refine lv_iadd hx hb dL_law_1640 ?_
  refine lv_topi (fun z1 ez1 => ?_)
  obtain rfl : z1 = (1 : Int32) := ez1.trans (by decide)
  refine va_sld hx hb Z.2.2.1 Z.2.2.2 hbA hG.1.2.2 (vp_inL (by decide)) dL_law_1641 ?_
  refine lv_topi (fun z2 ez2 => ?_)
  obtain rfl : z2 = sc 1 := ez2.trans (congrArg sc (by decide))
  refine lv_aload_n hx hb dL_law_1642 rfl (lv_at hl 3 rfl) ?_
  refine lv_iload_n hx hb dL_law_1643 rfl (lv_at hl 0 rfl) ?_
  refine lv_iconst (v := (2 : Int32)) hx hb dL_law_1644 (by decide) ?_
  refine lv_iadd hx hb dL_law_1645 ?_
  refine lv_topi (fun z3 ez3 => ?_)
  obtain rfl : z3 = (2 : Int32) := ez3.trans (by decide)
  refine va_sld hx hb Z.2.2.1 Z.2.2.2 hbA hG.1.2.2 (vp_inL (by decide)) dL_law_1646 ?_
  refine lv_topi (fun z4 ez4 => ?_)
  obtain rfl : z4 = sc 2 := ez4.trans (congrArg sc (by decide))
  refine g_ViG C hl.1 (fun _ h => h) hG (As := [.int (sc 1), .int (sc 2)]) (rest := []) (k_flown l E L f mx fx mn fn (sc 1) (sc 2)) my_X9_flown wd834 mx fx rfl rfl rfl (Nat.le_of_ble_eq_true rfl) ⟨Nat.le_of_ble_eq_true rfl, Nat.le_of_ble_eq_true rfl⟩ ⟨hc, hs⟩ dL_law_1647 (fun r1 L1 f1 H locs hp1 hG => ?_)
  have hG := hG.swap
  refine lv_aload_n hx hb dL_law_1650 rfl (lv_at hl 1 rfl) ?_
  refine lv_aload_n hx hb dL_law_1651 rfl (lv_at hl 3 rfl) ?_
  refine lv_iload_n hx hb dL_law_1652 rfl (lv_at hl 0 rfl) ?_
  refine lv_iconst (v := (1 : Int32)) hx hb dL_law_1653 (by decide) ?_
  refine lv_iadd hx hb dL_law_1654 ?_
  refine lv_topi (fun z5 ez5 => ?_)
  obtain rfl : z5 = (1 : Int32) := ez5.trans (by decide)
  refine va_sld hx hb Z.2.2.1 Z.2.2.2 hbA hG.1.2.2 (vp_inL (by decide)) dL_law_1655 ?_
  refine lv_topi (fun z6 ez6 => ?_)
  obtain rfl : z6 = sc 1 := ez6.trans (congrArg sc (by decide))
  refine lv_aload_n hx hb dL_law_1656 rfl (lv_at hl 3 rfl) ?_
  refine lv_iload_n hx hb dL_law_1657 rfl (lv_at hl 0 rfl) ?_
  refine lv_iconst (v := (2 : Int32)) hx hb dL_law_1658 (by decide) ?_
  refine lv_iadd hx hb dL_law_1659 ?_
  refine lv_topi (fun z7 ez7 => ?_)
  obtain rfl : z7 = (2 : Int32) := ez7.trans (by decide)
  refine va_sld hx hb Z.2.2.1 Z.2.2.2 hbA hG.1.2.2 (vp_inL (by decide)) dL_law_1660 ?_
  refine lv_topi (fun z8 ez8 => ?_)
  obtain rfl : z8 = sc 2 := ez8.trans (congrArg sc (by decide))
  refine g_ViG C hl.1 (fun _ h => h) hG (As := [.int (sc 1), .int (sc 2)]) (rest := [.int r1]) (m_flown l E K k my fy am_lines af_lines am_has af_has (sc 1) (sc 2)) my_X10_flown wd838 my fy rfl rfl rfl (Nat.le_of_ble_eq_true rfl) ⟨Nat.le_of_ble_eq_true rfl, Nat.le_of_ble_eq_true rfl⟩ ⟨hc, hs⟩ dL_law_1661 (fun r2 K1 k1 H locs hp2 hG => ?_)
  have hG := hG.swap
  refine lv_icmp_eq (tgt := 2118) hx hb dL_law_1664 (by decide) (fun _ => ?_) (fun h => absurd (hp1.1.trans hp2.symm) h)
  exact law_tail Z hG.1.2.2 hc hs hl
set_option maxHeartbeats 4000000 in
set_option maxRecDepth 100000 in
theorem law_57 {p : Program} {l : Launch} {e : Env} {s : State} {m : MethodId} {below : List Frame} {meth : Method} {c : Code} {b : Nat} {sc : Nat → Int32} {E : gE} {L K : List Nat} {f k : gF} {x y : Nat} {H : Heap} {locs : List Loc} {cells slots : Nat} {ls : Array Slot} (Z : gLw E p s m meth c b 6 sc) (hG : gG E (fun q : Nat => s.heap.size ≤ q) L f K k s.heap H locs) (hX : gFresh E L f x) (hY : gFreshM E K k y) (hc : cells ≤ 600000) (hs : slots ≤ 7302249) (hl : lv_has ls 4 [(3, .int (0 : Int32)), (2, .ref y), (1, .ref x), (0, .ref b)]) : W p l e room_1 s m #[Value.ref b] below meth c H locs cells slots (lw_Z below #[Value.ref b] s) (F0 m 1669 ls []) := by
  have C := Z.1
  have hx := C.1
  have hb := C.2.1
  have hbA : ¬ (fun q : Nat => s.heap.size ≤ q) b := Nat.not_le.mpr Z.2.2.2
  obtain ⟨xt, xn, xr, xi, xw, xs, xl, xc, xh, xf, xm, xb, xd, lf, ll, na, da, wv, iv, mx, fx, mt, ft, mb, fb, mn, fn, mr, fr, md, fd, ml, fl, mw, fw, mi, fi, mm, fm, gn, gd, hnd, wr, im⟩ := hX
  obtain ⟨ya, wc, my, fy, am_width, af_width, am_many, af_many, am_cells, af_cells, am_tape, af_tape, am_lines, af_lines, am_has, af_has, am_flight, af_flight, am_member, af_member, am_act, af_act, am_isKept, af_isKept, hw⟩ := hY
  refine lv_aload_n hx hb dL_law_1669 rfl (lv_at hl 2 rfl) ?_
  refine lv_aload_n hx hb dL_law_1670 rfl (lv_at hl 3 rfl) ?_
  refine lv_iload_n hx hb dL_law_1671 rfl (lv_at hl 0 rfl) ?_
  refine lv_iconst (v := (1 : Int32)) hx hb dL_law_1672 (by decide) ?_
  refine lv_iadd hx hb dL_law_1673 ?_
  refine lv_topi (fun z1 ez1 => ?_)
  obtain rfl : z1 = (1 : Int32) := ez1.trans (by decide)
  refine va_sld hx hb Z.2.2.1 Z.2.2.2 hbA hG.1.2.2 (vp_inL (by decide)) dL_law_1674 ?_
  refine lv_topi (fun z2 ez2 => ?_)
  obtain rfl : z2 = sc 1 := ez2.trans (congrArg sc (by decide))
  refine lv_aload_n hx hb dL_law_1675 rfl (lv_at hl 3 rfl) ?_
  refine lv_iload_n hx hb dL_law_1676 rfl (lv_at hl 0 rfl) ?_
  refine lv_iconst (v := (2 : Int32)) hx hb dL_law_1677 (by decide) ?_
  refine lv_iadd hx hb dL_law_1678 ?_
  refine lv_topi (fun z3 ez3 => ?_)
  obtain rfl : z3 = (2 : Int32) := ez3.trans (by decide)
  refine va_sld hx hb Z.2.2.1 Z.2.2.2 hbA hG.1.2.2 (vp_inL (by decide)) dL_law_1679 ?_
  refine lv_topi (fun z4 ez4 => ?_)
  obtain rfl : z4 = sc 2 := ez4.trans (congrArg sc (by decide))
  refine g_ViG C hl.1 (fun _ h => h) hG (As := [.int (sc 1), .int (sc 2)]) (rest := []) (k_light l E L f mx fx mn fn (sc 1) (sc 2)) my_X9_light wd842 mx fx rfl rfl rfl (Nat.le_of_ble_eq_true rfl) ⟨Nat.le_of_ble_eq_true rfl, Nat.le_of_ble_eq_true rfl⟩ ⟨hc, hs⟩ dL_law_1680 (fun r1 L1 f1 H locs hp1 hG => ?_)
  have hG := hG.swap
  refine lv_aload_n hx hb dL_law_1683 rfl (lv_at hl 1 rfl) ?_
  refine lv_aload_n hx hb dL_law_1684 rfl (lv_at hl 3 rfl) ?_
  refine lv_iload_n hx hb dL_law_1685 rfl (lv_at hl 0 rfl) ?_
  refine lv_iconst (v := (1 : Int32)) hx hb dL_law_1686 (by decide) ?_
  refine lv_iadd hx hb dL_law_1687 ?_
  refine lv_topi (fun z5 ez5 => ?_)
  obtain rfl : z5 = (1 : Int32) := ez5.trans (by decide)
  refine va_sld hx hb Z.2.2.1 Z.2.2.2 hbA hG.1.2.2 (vp_inL (by decide)) dL_law_1688 ?_
  refine lv_topi (fun z6 ez6 => ?_)
  obtain rfl : z6 = sc 1 := ez6.trans (congrArg sc (by decide))
  refine lv_aload_n hx hb dL_law_1689 rfl (lv_at hl 3 rfl) ?_
  refine lv_iload_n hx hb dL_law_1690 rfl (lv_at hl 0 rfl) ?_
  refine lv_iconst (v := (2 : Int32)) hx hb dL_law_1691 (by decide) ?_
  refine lv_iadd hx hb dL_law_1692 ?_
  refine lv_topi (fun z7 ez7 => ?_)
  obtain rfl : z7 = (2 : Int32) := ez7.trans (by decide)
  refine va_sld hx hb Z.2.2.1 Z.2.2.2 hbA hG.1.2.2 (vp_inL (by decide)) dL_law_1693 ?_
  refine lv_topi (fun z8 ez8 => ?_)
  obtain rfl : z8 = sc 2 := ez8.trans (congrArg sc (by decide))
  refine g_ViG C hl.1 (fun _ h => h) hG (As := [.int (sc 1), .int (sc 2)]) (rest := [.int r1]) (m_light l E K k my fy am_lines af_lines am_has af_has (sc 1) (sc 2)) my_X10_light wd846 my fy rfl rfl rfl (Nat.le_of_ble_eq_true rfl) ⟨Nat.le_of_ble_eq_true rfl, Nat.le_of_ble_eq_true rfl⟩ ⟨hc, hs⟩ dL_law_1694 (fun r2 K1 k1 H locs hp2 hG => ?_)
  have hG := hG.swap
  refine lv_icmp_eq (tgt := 2118) hx hb dL_law_1697 (by decide) (fun _ => ?_) (fun h => absurd (hp1.1.trans hp2.symm) h)
  exact law_tail Z hG.1.2.2 hc hs hl
set_option maxHeartbeats 4000000 in
set_option maxRecDepth 100000 in
theorem law_58 {p : Program} {l : Launch} {e : Env} {s : State} {m : MethodId} {below : List Frame} {meth : Method} {c : Code} {b : Nat} {sc : Nat → Int32} {E : gE} {L K : List Nat} {f k : gF} {x y : Nat} {H : Heap} {locs : List Loc} {cells slots : Nat} {ls : Array Slot} (Z : gLw E p s m meth c b 6 sc) (hG : gG E (fun q : Nat => s.heap.size ≤ q) L f K k s.heap H locs) (hX : gFresh E L f x) (hY : gFreshM E K k y) (hc : cells ≤ 600000) (hs : slots ≤ 7302249) (hl : lv_has ls 4 [(3, .int (0 : Int32)), (2, .ref y), (1, .ref x), (0, .ref b)]) : W p l e room_1 s m #[Value.ref b] below meth c H locs cells slots (lw_Z below #[Value.ref b] s) (F0 m 1702 ls []) := by
  have C := Z.1
  have hx := C.1
  have hb := C.2.1
  have hbA : ¬ (fun q : Nat => s.heap.size ≤ q) b := Nat.not_le.mpr Z.2.2.2
  obtain ⟨xt, xn, xr, xi, xw, xs, xl, xc, xh, xf, xm, xb, xd, lf, ll, na, da, wv, iv, mx, fx, mt, ft, mb, fb, mn, fn, mr, fr, md, fd, ml, fl, mw, fw, mi, fi, mm, fm, gn, gd, hnd, wr, im⟩ := hX
  obtain ⟨ya, wc, my, fy, am_width, af_width, am_many, af_many, am_cells, af_cells, am_tape, af_tape, am_lines, af_lines, am_has, af_has, am_flight, af_flight, am_member, af_member, am_act, af_act, am_isKept, af_isKept, hw⟩ := hY
  refine lv_aload_n hx hb dL_law_1702 rfl (lv_at hl 2 rfl) ?_
  refine lv_aload_n hx hb dL_law_1703 rfl (lv_at hl 3 rfl) ?_
  refine lv_iload_n hx hb dL_law_1704 rfl (lv_at hl 0 rfl) ?_
  refine lv_iconst (v := (1 : Int32)) hx hb dL_law_1705 (by decide) ?_
  refine lv_iadd hx hb dL_law_1706 ?_
  refine lv_topi (fun z1 ez1 => ?_)
  obtain rfl : z1 = (1 : Int32) := ez1.trans (by decide)
  refine va_sld hx hb Z.2.2.1 Z.2.2.2 hbA hG.1.2.2 (vp_inL (by decide)) dL_law_1707 ?_
  refine lv_topi (fun z2 ez2 => ?_)
  obtain rfl : z2 = sc 1 := ez2.trans (congrArg sc (by decide))
  refine lv_aload_n hx hb dL_law_1708 rfl (lv_at hl 3 rfl) ?_
  refine lv_iload_n hx hb dL_law_1709 rfl (lv_at hl 0 rfl) ?_
  refine lv_iconst (v := (2 : Int32)) hx hb dL_law_1710 (by decide) ?_
  refine lv_iadd hx hb dL_law_1711 ?_
  refine lv_topi (fun z3 ez3 => ?_)
  obtain rfl : z3 = (2 : Int32) := ez3.trans (by decide)
  refine va_sld hx hb Z.2.2.1 Z.2.2.2 hbA hG.1.2.2 (vp_inL (by decide)) dL_law_1712 ?_
  refine lv_topi (fun z4 ez4 => ?_)
  obtain rfl : z4 = sc 2 := ez4.trans (congrArg sc (by decide))
  refine g_ViG C hl.1 (fun _ h => h) hG (As := [.int (sc 1), .int (sc 2)]) (rest := []) (k_turn l E L f mx fx mn fn (sc 1) (sc 2)) my_X9_turn wd850 mx fx rfl rfl rfl (Nat.le_of_ble_eq_true rfl) ⟨Nat.le_of_ble_eq_true rfl, Nat.le_of_ble_eq_true rfl⟩ ⟨hc, hs⟩ dL_law_1713 (fun r1 L1 f1 H locs hp1 hG => ?_)
  have hG := hG.swap
  refine lv_aload_n hx hb dL_law_1716 rfl (lv_at hl 1 rfl) ?_
  refine lv_aload_n hx hb dL_law_1717 rfl (lv_at hl 3 rfl) ?_
  refine lv_iload_n hx hb dL_law_1718 rfl (lv_at hl 0 rfl) ?_
  refine lv_iconst (v := (1 : Int32)) hx hb dL_law_1719 (by decide) ?_
  refine lv_iadd hx hb dL_law_1720 ?_
  refine lv_topi (fun z5 ez5 => ?_)
  obtain rfl : z5 = (1 : Int32) := ez5.trans (by decide)
  refine va_sld hx hb Z.2.2.1 Z.2.2.2 hbA hG.1.2.2 (vp_inL (by decide)) dL_law_1721 ?_
  refine lv_topi (fun z6 ez6 => ?_)
  obtain rfl : z6 = sc 1 := ez6.trans (congrArg sc (by decide))
  refine lv_aload_n hx hb dL_law_1722 rfl (lv_at hl 3 rfl) ?_
  refine lv_iload_n hx hb dL_law_1723 rfl (lv_at hl 0 rfl) ?_
  refine lv_iconst (v := (2 : Int32)) hx hb dL_law_1724 (by decide) ?_
  refine lv_iadd hx hb dL_law_1725 ?_
  refine lv_topi (fun z7 ez7 => ?_)
  obtain rfl : z7 = (2 : Int32) := ez7.trans (by decide)
  refine va_sld hx hb Z.2.2.1 Z.2.2.2 hbA hG.1.2.2 (vp_inL (by decide)) dL_law_1726 ?_
  refine lv_topi (fun z8 ez8 => ?_)
  obtain rfl : z8 = sc 2 := ez8.trans (congrArg sc (by decide))
  refine g_ViG C hl.1 (fun _ h => h) hG (As := [.int (sc 1), .int (sc 2)]) (rest := [.int r1]) (m_turn l E K k my fy am_lines af_lines am_has af_has (sc 1) (sc 2)) my_X10_turn wd854 my fy rfl rfl rfl (Nat.le_of_ble_eq_true rfl) ⟨Nat.le_of_ble_eq_true rfl, Nat.le_of_ble_eq_true rfl⟩ ⟨hc, hs⟩ dL_law_1727 (fun r2 K1 k1 H locs hp2 hG => ?_)
  have hG := hG.swap
  refine lv_icmp_eq (tgt := 2118) hx hb dL_law_1730 (by decide) (fun _ => ?_) (fun h => absurd (hp1.1.trans hp2.symm) h)
  exact law_tail Z hG.1.2.2 hc hs hl
set_option maxHeartbeats 4000000 in
set_option maxRecDepth 100000 in
theorem law_59 {p : Program} {l : Launch} {e : Env} {s : State} {m : MethodId} {below : List Frame} {meth : Method} {c : Code} {b : Nat} {sc : Nat → Int32} {E : gE} {L K : List Nat} {f k : gF} {x y : Nat} {H : Heap} {locs : List Loc} {cells slots : Nat} {ls : Array Slot} (Z : gLw E p s m meth c b 6 sc) (hG : gG E (fun q : Nat => s.heap.size ≤ q) L f K k s.heap H locs) (hX : gFresh E L f x) (hY : gFreshM E K k y) (hc : cells ≤ 600000) (hs : slots ≤ 7302249) (hl : lv_has ls 4 [(3, .int (0 : Int32)), (2, .ref y), (1, .ref x), (0, .ref b)]) : W p l e room_1 s m #[Value.ref b] below meth c H locs cells slots (lw_Z below #[Value.ref b] s) (F0 m 1735 ls []) := by
  have C := Z.1
  have hx := C.1
  have hb := C.2.1
  have hbA : ¬ (fun q : Nat => s.heap.size ≤ q) b := Nat.not_le.mpr Z.2.2.2
  obtain ⟨xt, xn, xr, xi, xw, xs, xl, xc, xh, xf, xm, xb, xd, lf, ll, na, da, wv, iv, mx, fx, mt, ft, mb, fb, mn, fn, mr, fr, md, fd, ml, fl, mw, fw, mi, fi, mm, fm, gn, gd, hnd, wr, im⟩ := hX
  obtain ⟨ya, wc, my, fy, am_width, af_width, am_many, af_many, am_cells, af_cells, am_tape, af_tape, am_lines, af_lines, am_has, af_has, am_flight, af_flight, am_member, af_member, am_act, af_act, am_isKept, af_isKept, hw⟩ := hY
  refine lv_aload_n hx hb dL_law_1735 rfl (lv_at hl 2 rfl) ?_
  refine g_ViG C hl.1 (fun _ h => h) hG (As := []) (rest := []) (k_undo l E L f mx fx mn fn) my_X9_undo wd858 mx fx rfl rfl rfl (Nat.le_of_ble_eq_true rfl) ⟨Nat.le_of_ble_eq_true rfl, Nat.le_of_ble_eq_true rfl⟩ ⟨hc, hs⟩ dL_law_1736 (fun r1 L1 f1 H locs hp1 hG => ?_)
  have hG := hG.swap
  refine lv_aload_n hx hb dL_law_1739 rfl (lv_at hl 1 rfl) ?_
  refine g_ViG C hl.1 (fun _ h => h) hG (As := []) (rest := [.int r1]) (m_undo l E K k my fy am_lines af_lines am_has af_has) my_X10_undo wd862 my fy rfl rfl rfl (Nat.le_of_ble_eq_true rfl) ⟨Nat.le_of_ble_eq_true rfl, Nat.le_of_ble_eq_true rfl⟩ ⟨hc, hs⟩ dL_law_1740 (fun r2 K1 k1 H locs hp2 hG => ?_)
  have hG := hG.swap
  refine lv_icmp_eq (tgt := 2118) hx hb dL_law_1743 (by decide) (fun _ => ?_) (fun h => absurd (hp1.1.trans hp2.symm) h)
  exact law_tail Z hG.1.2.2 hc hs hl
set_option maxHeartbeats 4000000 in
set_option maxRecDepth 100000 in
theorem law_60 {p : Program} {l : Launch} {e : Env} {s : State} {m : MethodId} {below : List Frame} {meth : Method} {c : Code} {b : Nat} {sc : Nat → Int32} {E : gE} {L K : List Nat} {f k : gF} {x y : Nat} {H : Heap} {locs : List Loc} {cells slots : Nat} {ls : Array Slot} (Z : gLw E p s m meth c b 6 sc) (hG : gG E (fun q : Nat => s.heap.size ≤ q) L f K k s.heap H locs) (hX : gFresh E L f x) (hY : gFreshM E K k y) (hc : cells ≤ 600000) (hs : slots ≤ 7302249) (hl : lv_has ls 4 [(3, .int (0 : Int32)), (2, .ref y), (1, .ref x), (0, .ref b)]) : W p l e room_1 s m #[Value.ref b] below meth c H locs cells slots (lw_Z below #[Value.ref b] s) (F0 m 1748 ls []) := by
  have C := Z.1
  have hx := C.1
  have hb := C.2.1
  have hbA : ¬ (fun q : Nat => s.heap.size ≤ q) b := Nat.not_le.mpr Z.2.2.2
  obtain ⟨xt, xn, xr, xi, xw, xs, xl, xc, xh, xf, xm, xb, xd, lf, ll, na, da, wv, iv, mx, fx, mt, ft, mb, fb, mn, fn, mr, fr, md, fd, ml, fl, mw, fw, mi, fi, mm, fm, gn, gd, hnd, wr, im⟩ := hX
  obtain ⟨ya, wc, my, fy, am_width, af_width, am_many, af_many, am_cells, af_cells, am_tape, af_tape, am_lines, af_lines, am_has, af_has, am_flight, af_flight, am_member, af_member, am_act, af_act, am_isKept, af_isKept, hw⟩ := hY
  refine lv_aload_n hx hb dL_law_1748 rfl (lv_at hl 2 rfl) ?_
  refine g_ViG C hl.1 (fun _ h => h) hG (As := []) (rest := []) (k_anew l E L f mx fx mn fn) my_X9_anew wd866 mx fx rfl rfl rfl (Nat.le_of_ble_eq_true rfl) ⟨Nat.le_of_ble_eq_true rfl, Nat.le_of_ble_eq_true rfl⟩ ⟨hc, hs⟩ dL_law_1749 (fun r1 L1 f1 H locs hp1 hG => ?_)
  have hG := hG.swap
  refine lv_aload_n hx hb dL_law_1752 rfl (lv_at hl 1 rfl) ?_
  refine g_ViG C hl.1 (fun _ h => h) hG (As := []) (rest := [.int r1]) (m_anew l E K k my fy am_lines af_lines am_has af_has) my_X10_anew wd870 my fy rfl rfl rfl (Nat.le_of_ble_eq_true rfl) ⟨Nat.le_of_ble_eq_true rfl, Nat.le_of_ble_eq_true rfl⟩ ⟨hc, hs⟩ dL_law_1753 (fun r2 K1 k1 H locs hp2 hG => ?_)
  have hG := hG.swap
  refine lv_icmp_eq (tgt := 2118) hx hb dL_law_1756 (by decide) (fun _ => ?_) (fun h => absurd (hp1.1.trans hp2.symm) h)
  exact law_tail Z hG.1.2.2 hc hs hl
set_option maxHeartbeats 4000000 in
set_option maxRecDepth 100000 in
theorem law_61 {p : Program} {l : Launch} {e : Env} {s : State} {m : MethodId} {below : List Frame} {meth : Method} {c : Code} {b : Nat} {sc : Nat → Int32} {E : gE} {L K : List Nat} {f k : gF} {x y : Nat} {H : Heap} {locs : List Loc} {cells slots : Nat} {ls : Array Slot} (Z : gLw E p s m meth c b 6 sc) (hG : gG E (fun q : Nat => s.heap.size ≤ q) L f K k s.heap H locs) (hX : gFresh E L f x) (hY : gFreshM E K k y) (hc : cells ≤ 600000) (hs : slots ≤ 7302249) (hl : lv_has ls 4 [(3, .int (0 : Int32)), (2, .ref y), (1, .ref x), (0, .ref b)]) : W p l e room_1 s m #[Value.ref b] below meth c H locs cells slots (lw_Z below #[Value.ref b] s) (F0 m 1761 ls []) := by
  have C := Z.1
  have hx := C.1
  have hb := C.2.1
  have hbA : ¬ (fun q : Nat => s.heap.size ≤ q) b := Nat.not_le.mpr Z.2.2.2
  obtain ⟨xt, xn, xr, xi, xw, xs, xl, xc, xh, xf, xm, xb, xd, lf, ll, na, da, wv, iv, mx, fx, mt, ft, mb, fb, mn, fn, mr, fr, md, fd, ml, fl, mw, fw, mi, fi, mm, fm, gn, gd, hnd, wr, im⟩ := hX
  obtain ⟨ya, wc, my, fy, am_width, af_width, am_many, af_many, am_cells, af_cells, am_tape, af_tape, am_lines, af_lines, am_has, af_has, am_flight, af_flight, am_member, af_member, am_act, af_act, am_isKept, af_isKept, hw⟩ := hY
  refine lv_aload_n hx hb dL_law_1761 rfl (lv_at hl 2 rfl) ?_
  refine lv_aload_n hx hb dL_law_1762 rfl (lv_at hl 3 rfl) ?_
  refine lv_iload_n hx hb dL_law_1763 rfl (lv_at hl 0 rfl) ?_
  refine lv_iconst (v := (1 : Int32)) hx hb dL_law_1764 (by decide) ?_
  refine lv_iadd hx hb dL_law_1765 ?_
  refine lv_topi (fun z1 ez1 => ?_)
  obtain rfl : z1 = (1 : Int32) := ez1.trans (by decide)
  refine va_sld hx hb Z.2.2.1 Z.2.2.2 hbA hG.1.2.2 (vp_inL (by decide)) dL_law_1766 ?_
  refine lv_topi (fun z2 ez2 => ?_)
  obtain rfl : z2 = sc 1 := ez2.trans (congrArg sc (by decide))
  refine lv_aload_n hx hb dL_law_1767 rfl (lv_at hl 3 rfl) ?_
  refine lv_iload_n hx hb dL_law_1768 rfl (lv_at hl 0 rfl) ?_
  refine lv_iconst (v := (2 : Int32)) hx hb dL_law_1769 (by decide) ?_
  refine lv_iadd hx hb dL_law_1770 ?_
  refine lv_topi (fun z3 ez3 => ?_)
  obtain rfl : z3 = (2 : Int32) := ez3.trans (by decide)
  refine va_sld hx hb Z.2.2.1 Z.2.2.2 hbA hG.1.2.2 (vp_inL (by decide)) dL_law_1771 ?_
  refine lv_topi (fun z4 ez4 => ?_)
  obtain rfl : z4 = sc 2 := ez4.trans (congrArg sc (by decide))
  refine g_ViG C hl.1 (fun _ h => h) hG (As := [.int (sc 1), .int (sc 2)]) (rest := []) (k_drawn l E L f mx fx mn fn (sc 1) (sc 2)) my_X9_drawn wd874 mx fx rfl rfl rfl (Nat.le_of_ble_eq_true rfl) ⟨Nat.le_of_ble_eq_true rfl, Nat.le_of_ble_eq_true rfl⟩ ⟨hc, hs⟩ dL_law_1772 (fun r1 L1 f1 H locs hp1 hG => ?_)
  have hG := hG.swap
  refine lv_aload_n hx hb dL_law_1775 rfl (lv_at hl 1 rfl) ?_
  refine lv_aload_n hx hb dL_law_1776 rfl (lv_at hl 3 rfl) ?_
  refine lv_iload_n hx hb dL_law_1777 rfl (lv_at hl 0 rfl) ?_
  refine lv_iconst (v := (1 : Int32)) hx hb dL_law_1778 (by decide) ?_
  refine lv_iadd hx hb dL_law_1779 ?_
  refine lv_topi (fun z5 ez5 => ?_)
  obtain rfl : z5 = (1 : Int32) := ez5.trans (by decide)
  refine va_sld hx hb Z.2.2.1 Z.2.2.2 hbA hG.1.2.2 (vp_inL (by decide)) dL_law_1780 ?_
  refine lv_topi (fun z6 ez6 => ?_)
  obtain rfl : z6 = sc 1 := ez6.trans (congrArg sc (by decide))
  refine lv_aload_n hx hb dL_law_1781 rfl (lv_at hl 3 rfl) ?_
  refine lv_iload_n hx hb dL_law_1782 rfl (lv_at hl 0 rfl) ?_
  refine lv_iconst (v := (2 : Int32)) hx hb dL_law_1783 (by decide) ?_
  refine lv_iadd hx hb dL_law_1784 ?_
  refine lv_topi (fun z7 ez7 => ?_)
  obtain rfl : z7 = (2 : Int32) := ez7.trans (by decide)
  refine va_sld hx hb Z.2.2.1 Z.2.2.2 hbA hG.1.2.2 (vp_inL (by decide)) dL_law_1785 ?_
  refine lv_topi (fun z8 ez8 => ?_)
  obtain rfl : z8 = sc 2 := ez8.trans (congrArg sc (by decide))
  refine g_ViG C hl.1 (fun _ h => h) hG (As := [.int (sc 1), .int (sc 2)]) (rest := [.int r1]) (m_drawn l E K k my fy am_lines af_lines am_has af_has (sc 1) (sc 2)) my_X10_drawn wd878 my fy rfl rfl rfl (Nat.le_of_ble_eq_true rfl) ⟨Nat.le_of_ble_eq_true rfl, Nat.le_of_ble_eq_true rfl⟩ ⟨hc, hs⟩ dL_law_1786 (fun r2 K1 k1 H locs hp2 hG => ?_)
  have hG := hG.swap
  refine lv_icmp_eq (tgt := 2118) hx hb dL_law_1789 (by decide) (fun _ => ?_) (fun h => absurd (hp1.1.trans hp2.symm) h)
  exact law_tail Z hG.1.2.2 hc hs hl
set_option maxHeartbeats 4000000 in
set_option maxRecDepth 100000 in
theorem law_62 {p : Program} {l : Launch} {e : Env} {s : State} {m : MethodId} {below : List Frame} {meth : Method} {c : Code} {b : Nat} {sc : Nat → Int32} {E : gE} {L K : List Nat} {f k : gF} {x y : Nat} {H : Heap} {locs : List Loc} {cells slots : Nat} {ls : Array Slot} (Z : gLw E p s m meth c b 6 sc) (hG : gG E (fun q : Nat => s.heap.size ≤ q) L f K k s.heap H locs) (hX : gFresh E L f x) (hY : gFreshM E K k y) (hc : cells ≤ 600000) (hs : slots ≤ 7302249) (hl : lv_has ls 4 [(3, .int (0 : Int32)), (2, .ref y), (1, .ref x), (0, .ref b)]) : W p l e room_1 s m #[Value.ref b] below meth c H locs cells slots (lw_Z below #[Value.ref b] s) (F0 m 1794 ls []) := by
  have C := Z.1
  have hx := C.1
  have hb := C.2.1
  have hbA : ¬ (fun q : Nat => s.heap.size ≤ q) b := Nat.not_le.mpr Z.2.2.2
  obtain ⟨xt, xn, xr, xi, xw, xs, xl, xc, xh, xf, xm, xb, xd, lf, ll, na, da, wv, iv, mx, fx, mt, ft, mb, fb, mn, fn, mr, fr, md, fd, ml, fl, mw, fw, mi, fi, mm, fm, gn, gd, hnd, wr, im⟩ := hX
  obtain ⟨ya, wc, my, fy, am_width, af_width, am_many, af_many, am_cells, af_cells, am_tape, af_tape, am_lines, af_lines, am_has, af_has, am_flight, af_flight, am_member, af_member, am_act, af_act, am_isKept, af_isKept, hw⟩ := hY
  refine lv_aload_n hx hb dL_law_1794 rfl (lv_at hl 2 rfl) ?_
  refine lv_aload_n hx hb dL_law_1795 rfl (lv_at hl 3 rfl) ?_
  refine lv_iload_n hx hb dL_law_1796 rfl (lv_at hl 0 rfl) ?_
  refine lv_iconst (v := (1 : Int32)) hx hb dL_law_1797 (by decide) ?_
  refine lv_iadd hx hb dL_law_1798 ?_
  refine lv_topi (fun z1 ez1 => ?_)
  obtain rfl : z1 = (1 : Int32) := ez1.trans (by decide)
  refine va_sld hx hb Z.2.2.1 Z.2.2.2 hbA hG.1.2.2 (vp_inL (by decide)) dL_law_1799 ?_
  refine lv_topi (fun z2 ez2 => ?_)
  obtain rfl : z2 = sc 1 := ez2.trans (congrArg sc (by decide))
  refine lv_aload_n hx hb dL_law_1800 rfl (lv_at hl 3 rfl) ?_
  refine lv_iload_n hx hb dL_law_1801 rfl (lv_at hl 0 rfl) ?_
  refine lv_iconst (v := (2 : Int32)) hx hb dL_law_1802 (by decide) ?_
  refine lv_iadd hx hb dL_law_1803 ?_
  refine lv_topi (fun z3 ez3 => ?_)
  obtain rfl : z3 = (2 : Int32) := ez3.trans (by decide)
  refine va_sld hx hb Z.2.2.1 Z.2.2.2 hbA hG.1.2.2 (vp_inL (by decide)) dL_law_1804 ?_
  refine lv_topi (fun z4 ez4 => ?_)
  obtain rfl : z4 = sc 2 := ez4.trans (congrArg sc (by decide))
  refine lv_aload_n hx hb dL_law_1805 rfl (lv_at hl 3 rfl) ?_
  refine lv_iload_n hx hb dL_law_1806 rfl (lv_at hl 0 rfl) ?_
  refine lv_iconst (v := (3 : Int32)) hx hb dL_law_1807 (by decide) ?_
  refine lv_iadd hx hb dL_law_1808 ?_
  refine lv_topi (fun z5 ez5 => ?_)
  obtain rfl : z5 = (3 : Int32) := ez5.trans (by decide)
  refine va_sld hx hb Z.2.2.1 Z.2.2.2 hbA hG.1.2.2 (vp_inL (by decide)) dL_law_1809 ?_
  refine lv_topi (fun z6 ez6 => ?_)
  obtain rfl : z6 = sc 3 := ez6.trans (congrArg sc (by decide))
  refine g_ViG C hl.1 (fun _ h => h) hG (As := [.int (sc 1), .int (sc 2), .int (sc 3)]) (rest := []) (k_luck l E L f mx fx mn fn (sc 1) (sc 2) (sc 3)) my_X9_luck wd882 mx fx rfl rfl rfl (Nat.le_of_ble_eq_true rfl) ⟨Nat.le_of_ble_eq_true rfl, Nat.le_of_ble_eq_true rfl⟩ ⟨hc, hs⟩ dL_law_1810 (fun r1 L1 f1 H locs hp1 hG => ?_)
  have hG := hG.swap
  refine lv_aload_n hx hb dL_law_1813 rfl (lv_at hl 1 rfl) ?_
  refine lv_aload_n hx hb dL_law_1814 rfl (lv_at hl 3 rfl) ?_
  refine lv_iload_n hx hb dL_law_1815 rfl (lv_at hl 0 rfl) ?_
  refine lv_iconst (v := (1 : Int32)) hx hb dL_law_1816 (by decide) ?_
  refine lv_iadd hx hb dL_law_1817 ?_
  refine lv_topi (fun z7 ez7 => ?_)
  obtain rfl : z7 = (1 : Int32) := ez7.trans (by decide)
  refine va_sld hx hb Z.2.2.1 Z.2.2.2 hbA hG.1.2.2 (vp_inL (by decide)) dL_law_1818 ?_
  refine lv_topi (fun z8 ez8 => ?_)
  obtain rfl : z8 = sc 1 := ez8.trans (congrArg sc (by decide))
  refine lv_aload_n hx hb dL_law_1819 rfl (lv_at hl 3 rfl) ?_
  refine lv_iload_n hx hb dL_law_1820 rfl (lv_at hl 0 rfl) ?_
  refine lv_iconst (v := (2 : Int32)) hx hb dL_law_1821 (by decide) ?_
  refine lv_iadd hx hb dL_law_1822 ?_
  refine lv_topi (fun z9 ez9 => ?_)
  obtain rfl : z9 = (2 : Int32) := ez9.trans (by decide)
  refine va_sld hx hb Z.2.2.1 Z.2.2.2 hbA hG.1.2.2 (vp_inL (by decide)) dL_law_1823 ?_
  refine lv_topi (fun z10 ez10 => ?_)
  obtain rfl : z10 = sc 2 := ez10.trans (congrArg sc (by decide))
  refine lv_aload_n hx hb dL_law_1824 rfl (lv_at hl 3 rfl) ?_
  refine lv_iload_n hx hb dL_law_1825 rfl (lv_at hl 0 rfl) ?_
  refine lv_iconst (v := (3 : Int32)) hx hb dL_law_1826 (by decide) ?_
  refine lv_iadd hx hb dL_law_1827 ?_
  refine lv_topi (fun z11 ez11 => ?_)
  obtain rfl : z11 = (3 : Int32) := ez11.trans (by decide)
  refine va_sld hx hb Z.2.2.1 Z.2.2.2 hbA hG.1.2.2 (vp_inL (by decide)) dL_law_1828 ?_
  refine lv_topi (fun z12 ez12 => ?_)
  obtain rfl : z12 = sc 3 := ez12.trans (congrArg sc (by decide))
  refine g_ViG C hl.1 (fun _ h => h) hG (As := [.int (sc 1), .int (sc 2), .int (sc 3)]) (rest := [.int r1]) (m_luck l E K k my fy am_lines af_lines am_has af_has (sc 1) (sc 2) (sc 3)) my_X10_luck wd886 my fy rfl rfl rfl (Nat.le_of_ble_eq_true rfl) ⟨Nat.le_of_ble_eq_true rfl, Nat.le_of_ble_eq_true rfl⟩ ⟨hc, hs⟩ dL_law_1829 (fun r2 K1 k1 H locs hp2 hG => ?_)
  have hG := hG.swap
  refine lv_icmp_eq (tgt := 2118) hx hb dL_law_1832 (by decide) (fun _ => ?_) (fun h => absurd (hp1.1.trans hp2.symm) h)
  exact law_tail Z hG.1.2.2 hc hs hl
set_option maxHeartbeats 4000000 in
set_option maxRecDepth 100000 in
theorem law_63 {p : Program} {l : Launch} {e : Env} {s : State} {m : MethodId} {below : List Frame} {meth : Method} {c : Code} {b : Nat} {sc : Nat → Int32} {E : gE} {L K : List Nat} {f k : gF} {x y : Nat} {H : Heap} {locs : List Loc} {cells slots : Nat} {ls : Array Slot} (Z : gLw E p s m meth c b 6 sc) (hG : gG E (fun q : Nat => s.heap.size ≤ q) L f K k s.heap H locs) (hX : gFresh E L f x) (hY : gFreshM E K k y) (hc : cells ≤ 600000) (hs : slots ≤ 7302249) (hl : lv_has ls 4 [(3, .int (0 : Int32)), (2, .ref y), (1, .ref x), (0, .ref b)]) : W p l e room_1 s m #[Value.ref b] below meth c H locs cells slots (lw_Z below #[Value.ref b] s) (F0 m 1837 ls []) := by
  have C := Z.1
  have hx := C.1
  have hb := C.2.1
  have hbA : ¬ (fun q : Nat => s.heap.size ≤ q) b := Nat.not_le.mpr Z.2.2.2
  obtain ⟨xt, xn, xr, xi, xw, xs, xl, xc, xh, xf, xm, xb, xd, lf, ll, na, da, wv, iv, mx, fx, mt, ft, mb, fb, mn, fn, mr, fr, md, fd, ml, fl, mw, fw, mi, fi, mm, fm, gn, gd, hnd, wr, im⟩ := hX
  obtain ⟨ya, wc, my, fy, am_width, af_width, am_many, af_many, am_cells, af_cells, am_tape, af_tape, am_lines, af_lines, am_has, af_has, am_flight, af_flight, am_member, af_member, am_act, af_act, am_isKept, af_isKept, hw⟩ := hY
  refine lv_aload_n hx hb dL_law_1837 rfl (lv_at hl 2 rfl) ?_
  refine lv_aload_n hx hb dL_law_1838 rfl (lv_at hl 3 rfl) ?_
  refine lv_iload_n hx hb dL_law_1839 rfl (lv_at hl 0 rfl) ?_
  refine lv_iconst (v := (1 : Int32)) hx hb dL_law_1840 (by decide) ?_
  refine lv_iadd hx hb dL_law_1841 ?_
  refine lv_topi (fun z1 ez1 => ?_)
  obtain rfl : z1 = (1 : Int32) := ez1.trans (by decide)
  refine va_sld hx hb Z.2.2.1 Z.2.2.2 hbA hG.1.2.2 (vp_inL (by decide)) dL_law_1842 ?_
  refine lv_topi (fun z2 ez2 => ?_)
  obtain rfl : z2 = sc 1 := ez2.trans (congrArg sc (by decide))
  refine lv_aload_n hx hb dL_law_1843 rfl (lv_at hl 3 rfl) ?_
  refine lv_iload_n hx hb dL_law_1844 rfl (lv_at hl 0 rfl) ?_
  refine lv_iconst (v := (2 : Int32)) hx hb dL_law_1845 (by decide) ?_
  refine lv_iadd hx hb dL_law_1846 ?_
  refine lv_topi (fun z3 ez3 => ?_)
  obtain rfl : z3 = (2 : Int32) := ez3.trans (by decide)
  refine va_sld hx hb Z.2.2.1 Z.2.2.2 hbA hG.1.2.2 (vp_inL (by decide)) dL_law_1847 ?_
  refine lv_topi (fun z4 ez4 => ?_)
  obtain rfl : z4 = sc 2 := ez4.trans (congrArg sc (by decide))
  refine g_ViG C hl.1 (fun _ h => h) hG (As := [.int (sc 1), .int (sc 2)]) (rest := []) (k_rate l E L f mx fx mn fn (sc 1) (sc 2)) my_X9_rate wd890 mx fx rfl rfl rfl (Nat.le_of_ble_eq_true rfl) ⟨Nat.le_of_ble_eq_true rfl, Nat.le_of_ble_eq_true rfl⟩ ⟨hc, hs⟩ dL_law_1848 (fun r1 L1 f1 H locs hp1 hG => ?_)
  have hG := hG.swap
  refine lv_aload_n hx hb dL_law_1851 rfl (lv_at hl 1 rfl) ?_
  refine lv_aload_n hx hb dL_law_1852 rfl (lv_at hl 3 rfl) ?_
  refine lv_iload_n hx hb dL_law_1853 rfl (lv_at hl 0 rfl) ?_
  refine lv_iconst (v := (1 : Int32)) hx hb dL_law_1854 (by decide) ?_
  refine lv_iadd hx hb dL_law_1855 ?_
  refine lv_topi (fun z5 ez5 => ?_)
  obtain rfl : z5 = (1 : Int32) := ez5.trans (by decide)
  refine va_sld hx hb Z.2.2.1 Z.2.2.2 hbA hG.1.2.2 (vp_inL (by decide)) dL_law_1856 ?_
  refine lv_topi (fun z6 ez6 => ?_)
  obtain rfl : z6 = sc 1 := ez6.trans (congrArg sc (by decide))
  refine lv_aload_n hx hb dL_law_1857 rfl (lv_at hl 3 rfl) ?_
  refine lv_iload_n hx hb dL_law_1858 rfl (lv_at hl 0 rfl) ?_
  refine lv_iconst (v := (2 : Int32)) hx hb dL_law_1859 (by decide) ?_
  refine lv_iadd hx hb dL_law_1860 ?_
  refine lv_topi (fun z7 ez7 => ?_)
  obtain rfl : z7 = (2 : Int32) := ez7.trans (by decide)
  refine va_sld hx hb Z.2.2.1 Z.2.2.2 hbA hG.1.2.2 (vp_inL (by decide)) dL_law_1861 ?_
  refine lv_topi (fun z8 ez8 => ?_)
  obtain rfl : z8 = sc 2 := ez8.trans (congrArg sc (by decide))
  refine g_ViG C hl.1 (fun _ h => h) hG (As := [.int (sc 1), .int (sc 2)]) (rest := [.int r1]) (m_rate l E K k my fy am_lines af_lines am_has af_has (sc 1) (sc 2)) my_X10_rate wd894 my fy rfl rfl rfl (Nat.le_of_ble_eq_true rfl) ⟨Nat.le_of_ble_eq_true rfl, Nat.le_of_ble_eq_true rfl⟩ ⟨hc, hs⟩ dL_law_1862 (fun r2 K1 k1 H locs hp2 hG => ?_)
  have hG := hG.swap
  refine lv_icmp_eq (tgt := 2118) hx hb dL_law_1865 (by decide) (fun _ => ?_) (fun h => absurd (hp1.1.trans hp2.symm) h)
  exact law_tail Z hG.1.2.2 hc hs hl
set_option maxHeartbeats 4000000 in
set_option maxRecDepth 100000 in
theorem law_64 {p : Program} {l : Launch} {e : Env} {s : State} {m : MethodId} {below : List Frame} {meth : Method} {c : Code} {b : Nat} {sc : Nat → Int32} {E : gE} {L K : List Nat} {f k : gF} {x y : Nat} {H : Heap} {locs : List Loc} {cells slots : Nat} {ls : Array Slot} (Z : gLw E p s m meth c b 6 sc) (hG : gG E (fun q : Nat => s.heap.size ≤ q) L f K k s.heap H locs) (hX : gFresh E L f x) (hY : gFreshM E K k y) (hc : cells ≤ 600000) (hs : slots ≤ 7302249) (hl : lv_has ls 4 [(3, .int (0 : Int32)), (2, .ref y), (1, .ref x), (0, .ref b)]) : W p l e room_1 s m #[Value.ref b] below meth c H locs cells slots (lw_Z below #[Value.ref b] s) (F0 m 1870 ls []) := by
  have C := Z.1
  have hx := C.1
  have hb := C.2.1
  have hbA : ¬ (fun q : Nat => s.heap.size ≤ q) b := Nat.not_le.mpr Z.2.2.2
  obtain ⟨xt, xn, xr, xi, xw, xs, xl, xc, xh, xf, xm, xb, xd, lf, ll, na, da, wv, iv, mx, fx, mt, ft, mb, fb, mn, fn, mr, fr, md, fd, ml, fl, mw, fw, mi, fi, mm, fm, gn, gd, hnd, wr, im⟩ := hX
  obtain ⟨ya, wc, my, fy, am_width, af_width, am_many, af_many, am_cells, af_cells, am_tape, af_tape, am_lines, af_lines, am_has, af_has, am_flight, af_flight, am_member, af_member, am_act, af_act, am_isKept, af_isKept, hw⟩ := hY
  refine lv_aload_n hx hb dL_law_1870 rfl (lv_at hl 2 rfl) ?_
  refine lv_aload_n hx hb dL_law_1871 rfl (lv_at hl 3 rfl) ?_
  refine lv_iload_n hx hb dL_law_1872 rfl (lv_at hl 0 rfl) ?_
  refine lv_iconst (v := (1 : Int32)) hx hb dL_law_1873 (by decide) ?_
  refine lv_iadd hx hb dL_law_1874 ?_
  refine lv_topi (fun z1 ez1 => ?_)
  obtain rfl : z1 = (1 : Int32) := ez1.trans (by decide)
  refine va_sld hx hb Z.2.2.1 Z.2.2.2 hbA hG.1.2.2 (vp_inL (by decide)) dL_law_1875 ?_
  refine lv_topi (fun z2 ez2 => ?_)
  obtain rfl : z2 = sc 1 := ez2.trans (congrArg sc (by decide))
  refine g_ViG C hl.1 (fun _ h => h) hG (As := [.int (sc 1)]) (rest := []) (k_count l E L f mx fx mn fn mt ft mb fb mw fw wr (sc 1)) my_X9_count wd898 mx fx rfl rfl rfl (Nat.le_of_ble_eq_true rfl) ⟨Nat.le_of_ble_eq_true rfl, Nat.le_of_ble_eq_true rfl⟩ ⟨hc, hs⟩ dL_law_1876 (fun r1 L1 f1 H locs hp1 hG => ?_)
  have hG := hG.swap
  refine lv_aload_n hx hb dL_law_1879 rfl (lv_at hl 1 rfl) ?_
  refine lv_aload_n hx hb dL_law_1880 rfl (lv_at hl 3 rfl) ?_
  refine lv_iload_n hx hb dL_law_1881 rfl (lv_at hl 0 rfl) ?_
  refine lv_iconst (v := (1 : Int32)) hx hb dL_law_1882 (by decide) ?_
  refine lv_iadd hx hb dL_law_1883 ?_
  refine lv_topi (fun z3 ez3 => ?_)
  obtain rfl : z3 = (1 : Int32) := ez3.trans (by decide)
  refine va_sld hx hb Z.2.2.1 Z.2.2.2 hbA hG.1.2.2 (vp_inL (by decide)) dL_law_1884 ?_
  refine lv_topi (fun z4 ez4 => ?_)
  obtain rfl : z4 = sc 1 := ez4.trans (congrArg sc (by decide))
  refine g_ViG C hl.1 (fun _ h => h) hG (As := [.int (sc 1)]) (rest := [.int r1]) (m_count l E K k my fy am_lines af_lines am_has af_has am_width af_width hw (sc 1)) my_X10_count wd902 my fy rfl rfl rfl (Nat.le_of_ble_eq_true rfl) ⟨Nat.le_of_ble_eq_true rfl, Nat.le_of_ble_eq_true rfl⟩ ⟨hc, hs⟩ dL_law_1885 (fun r2 K1 k1 H locs hp2 hG => ?_)
  have hG := hG.swap
  refine lv_icmp_eq (tgt := 2118) hx hb dL_law_1888 (by decide) (fun _ => ?_) (fun h => absurd (hp1.trans hp2.symm) h)
  exact law_tail Z hG.1.2.2 hc hs hl
set_option maxHeartbeats 4000000 in
set_option maxRecDepth 100000 in
theorem law_65 {p : Program} {l : Launch} {e : Env} {s : State} {m : MethodId} {below : List Frame} {meth : Method} {c : Code} {b : Nat} {sc : Nat → Int32} {E : gE} {L K : List Nat} {f k : gF} {x y : Nat} {H : Heap} {locs : List Loc} {cells slots : Nat} {ls : Array Slot} (Z : gLw E p s m meth c b 6 sc) (hG : gG E (fun q : Nat => s.heap.size ≤ q) L f K k s.heap H locs) (hX : gFresh E L f x) (hY : gFreshM E K k y) (hc : cells ≤ 600000) (hs : slots ≤ 7302249) (hl : lv_has ls 4 [(3, .int (0 : Int32)), (2, .ref y), (1, .ref x), (0, .ref b)]) : W p l e room_1 s m #[Value.ref b] below meth c H locs cells slots (lw_Z below #[Value.ref b] s) (F0 m 1893 ls []) := by
  have C := Z.1
  have hx := C.1
  have hb := C.2.1
  have hbA : ¬ (fun q : Nat => s.heap.size ≤ q) b := Nat.not_le.mpr Z.2.2.2
  obtain ⟨xt, xn, xr, xi, xw, xs, xl, xc, xh, xf, xm, xb, xd, lf, ll, na, da, wv, iv, mx, fx, mt, ft, mb, fb, mn, fn, mr, fr, md, fd, ml, fl, mw, fw, mi, fi, mm, fm, gn, gd, hnd, wr, im⟩ := hX
  obtain ⟨ya, wc, my, fy, am_width, af_width, am_many, af_many, am_cells, af_cells, am_tape, af_tape, am_lines, af_lines, am_has, af_has, am_flight, af_flight, am_member, af_member, am_act, af_act, am_isKept, af_isKept, hw⟩ := hY
  refine lv_aload_n hx hb dL_law_1893 rfl (lv_at hl 2 rfl) ?_
  refine lv_aload_n hx hb dL_law_1894 rfl (lv_at hl 3 rfl) ?_
  refine lv_iload_n hx hb dL_law_1895 rfl (lv_at hl 0 rfl) ?_
  refine lv_iconst (v := (1 : Int32)) hx hb dL_law_1896 (by decide) ?_
  refine lv_iadd hx hb dL_law_1897 ?_
  refine lv_topi (fun z1 ez1 => ?_)
  obtain rfl : z1 = (1 : Int32) := ez1.trans (by decide)
  refine va_sld hx hb Z.2.2.1 Z.2.2.2 hbA hG.1.2.2 (vp_inL (by decide)) dL_law_1898 ?_
  refine lv_topi (fun z2 ez2 => ?_)
  obtain rfl : z2 = sc 1 := ez2.trans (congrArg sc (by decide))
  refine g_ViG C hl.1 (fun _ h => h) hG (As := [.int (sc 1)]) (rest := []) (k_image l E L f mx fx mn fn mi fi im mm fm gn (sc 1)) my_X9_image wd906 mx fx rfl rfl rfl (Nat.le_of_ble_eq_true rfl) ⟨Nat.le_of_ble_eq_true rfl, Nat.le_of_ble_eq_true rfl⟩ ⟨hc, hs⟩ dL_law_1899 (fun r1 L1 f1 H locs hp1 hG => ?_)
  have hG := hG.swap
  refine lv_aload_n hx hb dL_law_1902 rfl (lv_at hl 1 rfl) ?_
  refine lv_aload_n hx hb dL_law_1903 rfl (lv_at hl 3 rfl) ?_
  refine lv_iload_n hx hb dL_law_1904 rfl (lv_at hl 0 rfl) ?_
  refine lv_iconst (v := (1 : Int32)) hx hb dL_law_1905 (by decide) ?_
  refine lv_iadd hx hb dL_law_1906 ?_
  refine lv_topi (fun z3 ez3 => ?_)
  obtain rfl : z3 = (1 : Int32) := ez3.trans (by decide)
  refine va_sld hx hb Z.2.2.1 Z.2.2.2 hbA hG.1.2.2 (vp_inL (by decide)) dL_law_1907 ?_
  refine lv_topi (fun z4 ez4 => ?_)
  obtain rfl : z4 = sc 1 := ez4.trans (congrArg sc (by decide))
  refine g_ViG C hl.1 (fun _ h => h) hG (As := [.int (sc 1)]) (rest := [.int r1]) (m_image l E K k my fy am_lines af_lines am_has af_has am_flight af_flight am_member af_member am_act af_act (fun _ => rfl) (fun _ => rfl) (fun _ => rfl) (fun _ => rfl) (fun _ => rfl) am_isKept af_isKept (sc 1)) my_X10_image wd910 my fy rfl rfl rfl (Nat.le_of_ble_eq_true rfl) ⟨Nat.le_of_ble_eq_true rfl, Nat.le_of_ble_eq_true rfl⟩ ⟨hc, hs⟩ dL_law_1908 (fun r2 K1 k1 H locs hp2 hG => ?_)
  have hG := hG.swap
  refine lv_icmp_eq (tgt := 2118) hx hb dL_law_1911 (by decide) (fun _ => ?_) (fun h => absurd (hp1.trans hp2.symm) h)
  exact law_tail Z hG.1.2.2 hc hs hl
set_option maxHeartbeats 4000000 in
set_option maxRecDepth 100000 in
theorem law_66 {p : Program} {l : Launch} {e : Env} {s : State} {m : MethodId} {below : List Frame} {meth : Method} {c : Code} {b : Nat} {sc : Nat → Int32} {E : gE} {L K : List Nat} {f k : gF} {x y : Nat} {H : Heap} {locs : List Loc} {cells slots : Nat} {ls : Array Slot} (Z : gLw E p s m meth c b 6 sc) (hG : gG E (fun q : Nat => s.heap.size ≤ q) L f K k s.heap H locs) (hX : gFresh E L f x) (hY : gFreshM E K k y) (hc : cells ≤ 600000) (hs : slots ≤ 7302249) (hl : lv_has ls 4 [(3, .int (0 : Int32)), (2, .ref y), (1, .ref x), (0, .ref b)]) : W p l e room_1 s m #[Value.ref b] below meth c H locs cells slots (lw_Z below #[Value.ref b] s) (F0 m 1916 ls []) := by
  have C := Z.1
  have hx := C.1
  have hb := C.2.1
  have hbA : ¬ (fun q : Nat => s.heap.size ≤ q) b := Nat.not_le.mpr Z.2.2.2
  obtain ⟨xt, xn, xr, xi, xw, xs, xl, xc, xh, xf, xm, xb, xd, lf, ll, na, da, wv, iv, mx, fx, mt, ft, mb, fb, mn, fn, mr, fr, md, fd, ml, fl, mw, fw, mi, fi, mm, fm, gn, gd, hnd, wr, im⟩ := hX
  obtain ⟨ya, wc, my, fy, am_width, af_width, am_many, af_many, am_cells, af_cells, am_tape, af_tape, am_lines, af_lines, am_has, af_has, am_flight, af_flight, am_member, af_member, am_act, af_act, am_isKept, af_isKept, hw⟩ := hY
  refine lv_aload_n hx hb dL_law_1916 rfl (lv_at hl 2 rfl) ?_
  refine lv_aload_n hx hb dL_law_1917 rfl (lv_at hl 3 rfl) ?_
  refine lv_iload_n hx hb dL_law_1918 rfl (lv_at hl 0 rfl) ?_
  refine lv_iconst (v := (1 : Int32)) hx hb dL_law_1919 (by decide) ?_
  refine lv_iadd hx hb dL_law_1920 ?_
  refine lv_topi (fun z1 ez1 => ?_)
  obtain rfl : z1 = (1 : Int32) := ez1.trans (by decide)
  refine va_sld hx hb Z.2.2.1 Z.2.2.2 hbA hG.1.2.2 (vp_inL (by decide)) dL_law_1921 ?_
  refine lv_topi (fun z2 ez2 => ?_)
  obtain rfl : z2 = sc 1 := ez2.trans (congrArg sc (by decide))
  refine g_ViG C hl.1 (fun _ h => h) hG (As := [.int (sc 1)]) (rest := []) (k_back l E L f mx fx mn fn mm fm (sc 1)) my_X9_back wd914 mx fx rfl rfl rfl (Nat.le_of_ble_eq_true rfl) ⟨Nat.le_of_ble_eq_true rfl, Nat.le_of_ble_eq_true rfl⟩ ⟨hc, hs⟩ dL_law_1922 (fun r1 L1 f1 H locs hp1 hG => ?_)
  have hG := hG.swap
  refine lv_aload_n hx hb dL_law_1925 rfl (lv_at hl 1 rfl) ?_
  refine lv_aload_n hx hb dL_law_1926 rfl (lv_at hl 3 rfl) ?_
  refine lv_iload_n hx hb dL_law_1927 rfl (lv_at hl 0 rfl) ?_
  refine lv_iconst (v := (1 : Int32)) hx hb dL_law_1928 (by decide) ?_
  refine lv_iadd hx hb dL_law_1929 ?_
  refine lv_topi (fun z3 ez3 => ?_)
  obtain rfl : z3 = (1 : Int32) := ez3.trans (by decide)
  refine va_sld hx hb Z.2.2.1 Z.2.2.2 hbA hG.1.2.2 (vp_inL (by decide)) dL_law_1930 ?_
  refine lv_topi (fun z4 ez4 => ?_)
  obtain rfl : z4 = sc 1 := ez4.trans (congrArg sc (by decide))
  refine g_ViG C hl.1 (fun _ h => h) hG (As := [.int (sc 1)]) (rest := [.int r1]) (m_back l E K k my fy am_isKept af_isKept (sc 1)) my_X10_back wd918 my fy rfl rfl rfl (Nat.le_of_ble_eq_true rfl) ⟨Nat.le_of_ble_eq_true rfl, Nat.le_of_ble_eq_true rfl⟩ ⟨hc, hs⟩ dL_law_1931 (fun r2 K1 k1 H locs hp2 hG => ?_)
  have hG := hG.swap
  refine lv_icmp_eq (tgt := 2118) hx hb dL_law_1934 (by decide) (fun _ => ?_) (fun h => absurd (hp1.trans hp2.symm) h)
  exact law_tail Z hG.1.2.2 hc hs hl
set_option maxHeartbeats 4000000 in
set_option maxRecDepth 100000 in
theorem law_67 {p : Program} {l : Launch} {e : Env} {s : State} {m : MethodId} {below : List Frame} {meth : Method} {c : Code} {b : Nat} {sc : Nat → Int32} {E : gE} {L K : List Nat} {f k : gF} {x y : Nat} {H : Heap} {locs : List Loc} {cells slots : Nat} {ls : Array Slot} (Z : gLw E p s m meth c b 6 sc) (hG : gG E (fun q : Nat => s.heap.size ≤ q) L f K k s.heap H locs) (hX : gFresh E L f x) (hY : gFreshM E K k y) (hc : cells ≤ 600000) (hs : slots ≤ 7302249) (hl : lv_has ls 4 [(3, .int (0 : Int32)), (2, .ref y), (1, .ref x), (0, .ref b)]) : W p l e room_1 s m #[Value.ref b] below meth c H locs cells slots (lw_Z below #[Value.ref b] s) (F0 m 1939 ls []) := by
  have C := Z.1
  have hx := C.1
  have hb := C.2.1
  have hbA : ¬ (fun q : Nat => s.heap.size ≤ q) b := Nat.not_le.mpr Z.2.2.2
  obtain ⟨xt, xn, xr, xi, xw, xs, xl, xc, xh, xf, xm, xb, xd, lf, ll, na, da, wv, iv, mx, fx, mt, ft, mb, fb, mn, fn, mr, fr, md, fd, ml, fl, mw, fw, mi, fi, mm, fm, gn, gd, hnd, wr, im⟩ := hX
  obtain ⟨ya, wc, my, fy, am_width, af_width, am_many, af_many, am_cells, af_cells, am_tape, af_tape, am_lines, af_lines, am_has, af_has, am_flight, af_flight, am_member, af_member, am_act, af_act, am_isKept, af_isKept, hw⟩ := hY
  refine lv_aload_n hx hb dL_law_1939 rfl (lv_at hl 2 rfl) ?_
  refine lv_aload_n hx hb dL_law_1940 rfl (lv_at hl 3 rfl) ?_
  refine lv_iload_n hx hb dL_law_1941 rfl (lv_at hl 0 rfl) ?_
  refine lv_iconst (v := (1 : Int32)) hx hb dL_law_1942 (by decide) ?_
  refine lv_iadd hx hb dL_law_1943 ?_
  refine lv_topi (fun z1 ez1 => ?_)
  obtain rfl : z1 = (1 : Int32) := ez1.trans (by decide)
  refine va_sld hx hb Z.2.2.1 Z.2.2.2 hbA hG.1.2.2 (vp_inL (by decide)) dL_law_1944 ?_
  refine lv_topi (fun z2 ez2 => ?_)
  obtain rfl : z2 = sc 1 := ez2.trans (congrArg sc (by decide))
  refine lv_aload_n hx hb dL_law_1945 rfl (lv_at hl 3 rfl) ?_
  refine lv_iload_n hx hb dL_law_1946 rfl (lv_at hl 0 rfl) ?_
  refine lv_iconst (v := (2 : Int32)) hx hb dL_law_1947 (by decide) ?_
  refine lv_iadd hx hb dL_law_1948 ?_
  refine lv_topi (fun z3 ez3 => ?_)
  obtain rfl : z3 = (2 : Int32) := ez3.trans (by decide)
  refine va_sld hx hb Z.2.2.1 Z.2.2.2 hbA hG.1.2.2 (vp_inL (by decide)) dL_law_1949 ?_
  refine lv_topi (fun z4 ez4 => ?_)
  obtain rfl : z4 = sc 2 := ez4.trans (congrArg sc (by decide))
  refine lv_aload_n hx hb dL_law_1950 rfl (lv_at hl 3 rfl) ?_
  refine lv_iload_n hx hb dL_law_1951 rfl (lv_at hl 0 rfl) ?_
  refine lv_iconst (v := (3 : Int32)) hx hb dL_law_1952 (by decide) ?_
  refine lv_iadd hx hb dL_law_1953 ?_
  refine lv_topi (fun z5 ez5 => ?_)
  obtain rfl : z5 = (3 : Int32) := ez5.trans (by decide)
  refine va_sld hx hb Z.2.2.1 Z.2.2.2 hbA hG.1.2.2 (vp_inL (by decide)) dL_law_1954 ?_
  refine lv_topi (fun z6 ez6 => ?_)
  obtain rfl : z6 = sc 3 := ez6.trans (congrArg sc (by decide))
  refine g_ViG C hl.1 (fun _ h => h) hG (As := [.int (sc 1), .int (sc 2), .int (sc 3)]) (rest := []) (k_row l E L f mx fx mw fw wr (sc 1) (sc 2) (sc 3)) my_X9_row wd922 mx fx rfl rfl rfl (Nat.le_of_ble_eq_true rfl) ⟨Nat.le_of_ble_eq_true rfl, Nat.le_of_ble_eq_true rfl⟩ ⟨hc, hs⟩ dL_law_1955 (fun r1 L1 f1 H locs hp1 hG => ?_)
  have hG := hG.swap
  refine lv_aload_n hx hb dL_law_1958 rfl (lv_at hl 1 rfl) ?_
  refine lv_aload_n hx hb dL_law_1959 rfl (lv_at hl 3 rfl) ?_
  refine lv_iload_n hx hb dL_law_1960 rfl (lv_at hl 0 rfl) ?_
  refine lv_iconst (v := (1 : Int32)) hx hb dL_law_1961 (by decide) ?_
  refine lv_iadd hx hb dL_law_1962 ?_
  refine lv_topi (fun z7 ez7 => ?_)
  obtain rfl : z7 = (1 : Int32) := ez7.trans (by decide)
  refine va_sld hx hb Z.2.2.1 Z.2.2.2 hbA hG.1.2.2 (vp_inL (by decide)) dL_law_1963 ?_
  refine lv_topi (fun z8 ez8 => ?_)
  obtain rfl : z8 = sc 1 := ez8.trans (congrArg sc (by decide))
  refine lv_aload_n hx hb dL_law_1964 rfl (lv_at hl 3 rfl) ?_
  refine lv_iload_n hx hb dL_law_1965 rfl (lv_at hl 0 rfl) ?_
  refine lv_iconst (v := (2 : Int32)) hx hb dL_law_1966 (by decide) ?_
  refine lv_iadd hx hb dL_law_1967 ?_
  refine lv_topi (fun z9 ez9 => ?_)
  obtain rfl : z9 = (2 : Int32) := ez9.trans (by decide)
  refine va_sld hx hb Z.2.2.1 Z.2.2.2 hbA hG.1.2.2 (vp_inL (by decide)) dL_law_1968 ?_
  refine lv_topi (fun z10 ez10 => ?_)
  obtain rfl : z10 = sc 2 := ez10.trans (congrArg sc (by decide))
  refine lv_aload_n hx hb dL_law_1969 rfl (lv_at hl 3 rfl) ?_
  refine lv_iload_n hx hb dL_law_1970 rfl (lv_at hl 0 rfl) ?_
  refine lv_iconst (v := (3 : Int32)) hx hb dL_law_1971 (by decide) ?_
  refine lv_iadd hx hb dL_law_1972 ?_
  refine lv_topi (fun z11 ez11 => ?_)
  obtain rfl : z11 = (3 : Int32) := ez11.trans (by decide)
  refine va_sld hx hb Z.2.2.1 Z.2.2.2 hbA hG.1.2.2 (vp_inL (by decide)) dL_law_1973 ?_
  refine lv_topi (fun z12 ez12 => ?_)
  obtain rfl : z12 = sc 3 := ez12.trans (congrArg sc (by decide))
  refine g_ViG C hl.1 (fun _ h => h) hG (As := [.int (sc 1), .int (sc 2), .int (sc 3)]) (rest := [.int r1]) (m_row l E K k my fy am_width af_width am_many af_many am_cells af_cells (sc 1) (sc 2) (sc 3)) my_X10_row wd926 my fy rfl rfl rfl (Nat.le_of_ble_eq_true rfl) ⟨Nat.le_of_ble_eq_true rfl, Nat.le_of_ble_eq_true rfl⟩ ⟨hc, hs⟩ dL_law_1974 (fun r2 K1 k1 H locs hp2 hG => ?_)
  have hG := hG.swap
  refine lv_icmp_eq (tgt := 2118) hx hb dL_law_1977 (by decide) (fun _ => ?_) (fun h => absurd (hp1.trans hp2.symm) h)
  exact law_tail Z hG.1.2.2 hc hs hl
set_option maxHeartbeats 4000000 in
set_option maxRecDepth 100000 in
theorem law_68 {p : Program} {l : Launch} {e : Env} {s : State} {m : MethodId} {below : List Frame} {meth : Method} {c : Code} {b : Nat} {sc : Nat → Int32} {E : gE} {L K : List Nat} {f k : gF} {x y : Nat} {H : Heap} {locs : List Loc} {cells slots : Nat} {ls : Array Slot} (Z : gLw E p s m meth c b 6 sc) (hG : gG E (fun q : Nat => s.heap.size ≤ q) L f K k s.heap H locs) (hX : gFresh E L f x) (hY : gFreshM E K k y) (hc : cells ≤ 600000) (hs : slots ≤ 7302249) (hl : lv_has ls 4 [(3, .int (0 : Int32)), (2, .ref y), (1, .ref x), (0, .ref b)]) : W p l e room_1 s m #[Value.ref b] below meth c H locs cells slots (lw_Z below #[Value.ref b] s) (F0 m 1982 ls []) := by
  have C := Z.1
  have hx := C.1
  have hb := C.2.1
  have hbA : ¬ (fun q : Nat => s.heap.size ≤ q) b := Nat.not_le.mpr Z.2.2.2
  obtain ⟨xt, xn, xr, xi, xw, xs, xl, xc, xh, xf, xm, xb, xd, lf, ll, na, da, wv, iv, mx, fx, mt, ft, mb, fb, mn, fn, mr, fr, md, fd, ml, fl, mw, fw, mi, fi, mm, fm, gn, gd, hnd, wr, im⟩ := hX
  obtain ⟨ya, wc, my, fy, am_width, af_width, am_many, af_many, am_cells, af_cells, am_tape, af_tape, am_lines, af_lines, am_has, af_has, am_flight, af_flight, am_member, af_member, am_act, af_act, am_isKept, af_isKept, hw⟩ := hY
  refine lv_aload_n hx hb dL_law_1982 rfl (lv_at hl 2 rfl) ?_
  refine lv_aload_n hx hb dL_law_1983 rfl (lv_at hl 3 rfl) ?_
  refine lv_iload_n hx hb dL_law_1984 rfl (lv_at hl 0 rfl) ?_
  refine lv_iconst (v := (1 : Int32)) hx hb dL_law_1985 (by decide) ?_
  refine lv_iadd hx hb dL_law_1986 ?_
  refine lv_topi (fun z1 ez1 => ?_)
  obtain rfl : z1 = (1 : Int32) := ez1.trans (by decide)
  refine va_sld hx hb Z.2.2.1 Z.2.2.2 hbA hG.1.2.2 (vp_inL (by decide)) dL_law_1987 ?_
  refine lv_topi (fun z2 ez2 => ?_)
  obtain rfl : z2 = sc 1 := ez2.trans (congrArg sc (by decide))
  refine lv_aload_n hx hb dL_law_1988 rfl (lv_at hl 3 rfl) ?_
  refine lv_iload_n hx hb dL_law_1989 rfl (lv_at hl 0 rfl) ?_
  refine lv_iconst (v := (2 : Int32)) hx hb dL_law_1990 (by decide) ?_
  refine lv_iadd hx hb dL_law_1991 ?_
  refine lv_topi (fun z3 ez3 => ?_)
  obtain rfl : z3 = (2 : Int32) := ez3.trans (by decide)
  refine va_sld hx hb Z.2.2.1 Z.2.2.2 hbA hG.1.2.2 (vp_inL (by decide)) dL_law_1992 ?_
  refine lv_topi (fun z4 ez4 => ?_)
  obtain rfl : z4 = sc 2 := ez4.trans (congrArg sc (by decide))
  refine lv_aload_n hx hb dL_law_1993 rfl (lv_at hl 3 rfl) ?_
  refine lv_iload_n hx hb dL_law_1994 rfl (lv_at hl 0 rfl) ?_
  refine lv_iconst (v := (3 : Int32)) hx hb dL_law_1995 (by decide) ?_
  refine lv_iadd hx hb dL_law_1996 ?_
  refine lv_topi (fun z5 ez5 => ?_)
  obtain rfl : z5 = (3 : Int32) := ez5.trans (by decide)
  refine va_sld hx hb Z.2.2.1 Z.2.2.2 hbA hG.1.2.2 (vp_inL (by decide)) dL_law_1997 ?_
  refine lv_topi (fun z6 ez6 => ?_)
  obtain rfl : z6 = sc 3 := ez6.trans (congrArg sc (by decide))
  refine lv_i2l (v := ((sc 3)).toInt64) hx hb dL_law_1998 rfl ?_
  refine lv_bipush (v := (32 : Int32)) hx hb dL_law_1999 (by decide) ?_
  refine lv_lshl (v := _) hx hb dL_law_2001 rfl ?_
  refine lv_topl (fun z8 ez8 => ?_)
  refine lv_aload_n hx hb dL_law_2002 rfl (lv_at hl 3 rfl) ?_
  refine lv_iload_n hx hb dL_law_2003 rfl (lv_at hl 0 rfl) ?_
  refine lv_iconst (v := (4 : Int32)) hx hb dL_law_2004 (by decide) ?_
  refine lv_iadd hx hb dL_law_2005 ?_
  refine lv_topi (fun z9 ez9 => ?_)
  obtain rfl : z9 = (4 : Int32) := ez9.trans (by decide)
  refine va_sld hx hb Z.2.2.1 Z.2.2.2 hbA hG.1.2.2 (vp_inL (by decide)) dL_law_2006 ?_
  refine lv_topi (fun z10 ez10 => ?_)
  obtain rfl : z10 = sc 4 := ez10.trans (congrArg sc (by decide))
  refine lv_i2l (v := ((sc 4)).toInt64) hx hb dL_law_2007 rfl ?_
  refine lv_ldc2 hx hb C.2.2.2.1 (C.2.2.2.2.1 _ wd927) dL_law_2008 ?_
  refine lv_land hx hb dL_law_2011 ?_
  refine lv_topl (fun z11 ez11 => ?_)
  refine lv_lor hx hb dL_law_2012 ?_
  refine lv_topl (fun z12 ez12 => ?_)
  refine g_ViG C hl.1 (fun _ h => h) hG (As := [.int (sc 1), .int (sc 2), .long z12]) (rest := []) (k_write l E L f mx fx mw fw wr (sc 1) (sc 2) z12) my_X9_write wd931 mx fx rfl rfl rfl (Nat.le_of_ble_eq_true rfl) ⟨Nat.le_of_ble_eq_true rfl, Nat.le_of_ble_eq_true rfl⟩ ⟨hc, hs⟩ dL_law_2013 (fun r1 L1 f1 H locs hp1 hG => ?_)
  have hG := hG.swap
  refine lv_aload_n hx hb dL_law_2016 rfl (lv_at hl 1 rfl) ?_
  refine lv_aload_n hx hb dL_law_2017 rfl (lv_at hl 3 rfl) ?_
  refine lv_iload_n hx hb dL_law_2018 rfl (lv_at hl 0 rfl) ?_
  refine lv_iconst (v := (1 : Int32)) hx hb dL_law_2019 (by decide) ?_
  refine lv_iadd hx hb dL_law_2020 ?_
  refine lv_topi (fun z13 ez13 => ?_)
  obtain rfl : z13 = (1 : Int32) := ez13.trans (by decide)
  refine va_sld hx hb Z.2.2.1 Z.2.2.2 hbA hG.1.2.2 (vp_inL (by decide)) dL_law_2021 ?_
  refine lv_topi (fun z14 ez14 => ?_)
  obtain rfl : z14 = sc 1 := ez14.trans (congrArg sc (by decide))
  refine lv_aload_n hx hb dL_law_2022 rfl (lv_at hl 3 rfl) ?_
  refine lv_iload_n hx hb dL_law_2023 rfl (lv_at hl 0 rfl) ?_
  refine lv_iconst (v := (2 : Int32)) hx hb dL_law_2024 (by decide) ?_
  refine lv_iadd hx hb dL_law_2025 ?_
  refine lv_topi (fun z15 ez15 => ?_)
  obtain rfl : z15 = (2 : Int32) := ez15.trans (by decide)
  refine va_sld hx hb Z.2.2.1 Z.2.2.2 hbA hG.1.2.2 (vp_inL (by decide)) dL_law_2026 ?_
  refine lv_topi (fun z16 ez16 => ?_)
  obtain rfl : z16 = sc 2 := ez16.trans (congrArg sc (by decide))
  refine lv_aload_n hx hb dL_law_2027 rfl (lv_at hl 3 rfl) ?_
  refine lv_iload_n hx hb dL_law_2028 rfl (lv_at hl 0 rfl) ?_
  refine lv_iconst (v := (3 : Int32)) hx hb dL_law_2029 (by decide) ?_
  refine lv_iadd hx hb dL_law_2030 ?_
  refine lv_topi (fun z17 ez17 => ?_)
  obtain rfl : z17 = (3 : Int32) := ez17.trans (by decide)
  refine va_sld hx hb Z.2.2.1 Z.2.2.2 hbA hG.1.2.2 (vp_inL (by decide)) dL_law_2031 ?_
  refine lv_topi (fun z18 ez18 => ?_)
  obtain rfl : z18 = sc 3 := ez18.trans (congrArg sc (by decide))
  refine lv_i2l (v := ((sc 3)).toInt64) hx hb dL_law_2032 rfl ?_
  refine lv_bipush (v := (32 : Int32)) hx hb dL_law_2033 (by decide) ?_
  refine lv_lshl (v := _) hx hb dL_law_2035 rfl ?_
  refine lv_topl (fun z20 ez20 => ?_)
  refine lv_aload_n hx hb dL_law_2036 rfl (lv_at hl 3 rfl) ?_
  refine lv_iload_n hx hb dL_law_2037 rfl (lv_at hl 0 rfl) ?_
  refine lv_iconst (v := (4 : Int32)) hx hb dL_law_2038 (by decide) ?_
  refine lv_iadd hx hb dL_law_2039 ?_
  refine lv_topi (fun z21 ez21 => ?_)
  obtain rfl : z21 = (4 : Int32) := ez21.trans (by decide)
  refine va_sld hx hb Z.2.2.1 Z.2.2.2 hbA hG.1.2.2 (vp_inL (by decide)) dL_law_2040 ?_
  refine lv_topi (fun z22 ez22 => ?_)
  obtain rfl : z22 = sc 4 := ez22.trans (congrArg sc (by decide))
  refine lv_i2l (v := ((sc 4)).toInt64) hx hb dL_law_2041 rfl ?_
  refine lv_ldc2 hx hb C.2.2.2.1 (C.2.2.2.2.1 _ wd927) dL_law_2042 ?_
  refine lv_land hx hb dL_law_2045 ?_
  refine lv_topl (fun z23 ez23 => ?_)
  refine lv_lor hx hb dL_law_2046 ?_
  refine lv_topl (fun z24 ez24 => ?_)
  refine g_ViG C hl.1 (fun _ h => h) hG (As := [.int (sc 1), .int (sc 2), .long z24]) (rest := [.int r1]) (m_write l E K k my fy am_width af_width hw (sc 1) (sc 2) z24) my_X10_write wd935 my fy rfl rfl rfl (Nat.le_of_ble_eq_true rfl) ⟨Nat.le_of_ble_eq_true rfl, Nat.le_of_ble_eq_true rfl⟩ ⟨hc, hs⟩ dL_law_2047 (fun r2 K1 k1 H locs hp2 hG => ?_)
  have hG := hG.swap
  refine lv_icmp_eq (tgt := 2118) hx hb dL_law_2050 (by decide) (fun _ => ?_) (fun h => absurd (hp1.trans hp2.symm) h)
  exact law_tail Z hG.1.2.2 hc hs hl
set_option maxHeartbeats 4000000 in
set_option maxRecDepth 100000 in
theorem law_69 {p : Program} {l : Launch} {e : Env} {s : State} {m : MethodId} {below : List Frame} {meth : Method} {c : Code} {b : Nat} {sc : Nat → Int32} {E : gE} {L K : List Nat} {f k : gF} {x y : Nat} {H : Heap} {locs : List Loc} {cells slots : Nat} {ls : Array Slot} (Z : gLw E p s m meth c b 6 sc) (hG : gG E (fun q : Nat => s.heap.size ≤ q) L f K k s.heap H locs) (hX : gFresh E L f x) (hY : gFreshM E K k y) (hc : cells ≤ 600000) (hs : slots ≤ 7302249) (hl : lv_has ls 4 [(3, .int (0 : Int32)), (2, .ref y), (1, .ref x), (0, .ref b)]) : W p l e room_1 s m #[Value.ref b] below meth c H locs cells slots (lw_Z below #[Value.ref b] s) (F0 m 2055 ls []) := by
  have C := Z.1
  have hx := C.1
  have hb := C.2.1
  have hbA : ¬ (fun q : Nat => s.heap.size ≤ q) b := Nat.not_le.mpr Z.2.2.2
  obtain ⟨xt, xn, xr, xi, xw, xs, xl, xc, xh, xf, xm, xb, xd, lf, ll, na, da, wv, iv, mx, fx, mt, ft, mb, fb, mn, fn, mr, fr, md, fd, ml, fl, mw, fw, mi, fi, mm, fm, gn, gd, hnd, wr, im⟩ := hX
  obtain ⟨ya, wc, my, fy, am_width, af_width, am_many, af_many, am_cells, af_cells, am_tape, af_tape, am_lines, af_lines, am_has, af_has, am_flight, af_flight, am_member, af_member, am_act, af_act, am_isKept, af_isKept, hw⟩ := hY
  refine lv_aload_n hx hb dL_law_2055 rfl (lv_at hl 2 rfl) ?_
  refine lv_aload_n hx hb dL_law_2056 rfl (lv_at hl 3 rfl) ?_
  refine lv_iload_n hx hb dL_law_2057 rfl (lv_at hl 0 rfl) ?_
  refine lv_iconst (v := (1 : Int32)) hx hb dL_law_2058 (by decide) ?_
  refine lv_iadd hx hb dL_law_2059 ?_
  refine lv_topi (fun z1 ez1 => ?_)
  obtain rfl : z1 = (1 : Int32) := ez1.trans (by decide)
  refine va_sld hx hb Z.2.2.1 Z.2.2.2 hbA hG.1.2.2 (vp_inL (by decide)) dL_law_2060 ?_
  refine lv_topi (fun z2 ez2 => ?_)
  obtain rfl : z2 = sc 1 := ez2.trans (congrArg sc (by decide))
  refine lv_aload_n hx hb dL_law_2061 rfl (lv_at hl 3 rfl) ?_
  refine lv_iload_n hx hb dL_law_2062 rfl (lv_at hl 0 rfl) ?_
  refine lv_iconst (v := (2 : Int32)) hx hb dL_law_2063 (by decide) ?_
  refine lv_iadd hx hb dL_law_2064 ?_
  refine lv_topi (fun z3 ez3 => ?_)
  obtain rfl : z3 = (2 : Int32) := ez3.trans (by decide)
  refine va_sld hx hb Z.2.2.1 Z.2.2.2 hbA hG.1.2.2 (vp_inL (by decide)) dL_law_2065 ?_
  refine lv_topi (fun z4 ez4 => ?_)
  obtain rfl : z4 = sc 2 := ez4.trans (congrArg sc (by decide))
  refine lv_aload_n hx hb dL_law_2066 rfl (lv_at hl 3 rfl) ?_
  refine lv_iload_n hx hb dL_law_2067 rfl (lv_at hl 0 rfl) ?_
  refine lv_iconst (v := (3 : Int32)) hx hb dL_law_2068 (by decide) ?_
  refine lv_iadd hx hb dL_law_2069 ?_
  refine lv_topi (fun z5 ez5 => ?_)
  obtain rfl : z5 = (3 : Int32) := ez5.trans (by decide)
  refine va_sld hx hb Z.2.2.1 Z.2.2.2 hbA hG.1.2.2 (vp_inL (by decide)) dL_law_2070 ?_
  refine lv_topi (fun z6 ez6 => ?_)
  obtain rfl : z6 = sc 3 := ez6.trans (congrArg sc (by decide))
  refine lv_aload_n hx hb dL_law_2071 rfl (lv_at hl 3 rfl) ?_
  refine lv_iload_n hx hb dL_law_2072 rfl (lv_at hl 0 rfl) ?_
  refine lv_iconst (v := (4 : Int32)) hx hb dL_law_2073 (by decide) ?_
  refine lv_iadd hx hb dL_law_2074 ?_
  refine lv_topi (fun z7 ez7 => ?_)
  obtain rfl : z7 = (4 : Int32) := ez7.trans (by decide)
  refine va_sld hx hb Z.2.2.1 Z.2.2.2 hbA hG.1.2.2 (vp_inL (by decide)) dL_law_2075 ?_
  refine lv_topi (fun z8 ez8 => ?_)
  obtain rfl : z8 = sc 4 := ez8.trans (congrArg sc (by decide))
  refine lv_aload_n hx hb dL_law_2076 rfl (lv_at hl 3 rfl) ?_
  refine lv_iload_n hx hb dL_law_2077 rfl (lv_at hl 0 rfl) ?_
  refine lv_iconst (v := (5 : Int32)) hx hb dL_law_2078 (by decide) ?_
  refine lv_iadd hx hb dL_law_2079 ?_
  refine lv_topi (fun z9 ez9 => ?_)
  obtain rfl : z9 = (5 : Int32) := ez9.trans (by decide)
  refine va_sld hx hb Z.2.2.1 Z.2.2.2 hbA hG.1.2.2 (vp_inL (by decide)) dL_law_2080 ?_
  refine lv_topi (fun z10 ez10 => ?_)
  obtain rfl : z10 = sc 5 := ez10.trans (congrArg sc (by decide))
  refine g_ViG C hl.1 (fun _ h => h) hG (As := [.int (sc 1), .int (sc 2), .int (sc 3), .int (sc 4), .int (sc 5)]) (rest := []) (k_paste l E L f mx fx mw fw wr (sc 1) (sc 2) (sc 3) (sc 4) (sc 5)) my_X9_paste wd939 mx fx rfl rfl rfl (Nat.le_of_ble_eq_true rfl) ⟨Nat.le_of_ble_eq_true rfl, Nat.le_of_ble_eq_true rfl⟩ ⟨hc, hs⟩ dL_law_2081 (fun r1 L1 f1 H locs hp1 hG => ?_)
  have hG := hG.swap
  refine lv_aload_n hx hb dL_law_2084 rfl (lv_at hl 1 rfl) ?_
  refine lv_aload_n hx hb dL_law_2085 rfl (lv_at hl 3 rfl) ?_
  refine lv_iload_n hx hb dL_law_2086 rfl (lv_at hl 0 rfl) ?_
  refine lv_iconst (v := (1 : Int32)) hx hb dL_law_2087 (by decide) ?_
  refine lv_iadd hx hb dL_law_2088 ?_
  refine lv_topi (fun z11 ez11 => ?_)
  obtain rfl : z11 = (1 : Int32) := ez11.trans (by decide)
  refine va_sld hx hb Z.2.2.1 Z.2.2.2 hbA hG.1.2.2 (vp_inL (by decide)) dL_law_2089 ?_
  refine lv_topi (fun z12 ez12 => ?_)
  obtain rfl : z12 = sc 1 := ez12.trans (congrArg sc (by decide))
  refine lv_aload_n hx hb dL_law_2090 rfl (lv_at hl 3 rfl) ?_
  refine lv_iload_n hx hb dL_law_2091 rfl (lv_at hl 0 rfl) ?_
  refine lv_iconst (v := (2 : Int32)) hx hb dL_law_2092 (by decide) ?_
  refine lv_iadd hx hb dL_law_2093 ?_
  refine lv_topi (fun z13 ez13 => ?_)
  obtain rfl : z13 = (2 : Int32) := ez13.trans (by decide)
  refine va_sld hx hb Z.2.2.1 Z.2.2.2 hbA hG.1.2.2 (vp_inL (by decide)) dL_law_2094 ?_
  refine lv_topi (fun z14 ez14 => ?_)
  obtain rfl : z14 = sc 2 := ez14.trans (congrArg sc (by decide))
  refine lv_aload_n hx hb dL_law_2095 rfl (lv_at hl 3 rfl) ?_
  refine lv_iload_n hx hb dL_law_2096 rfl (lv_at hl 0 rfl) ?_
  refine lv_iconst (v := (3 : Int32)) hx hb dL_law_2097 (by decide) ?_
  refine lv_iadd hx hb dL_law_2098 ?_
  refine lv_topi (fun z15 ez15 => ?_)
  obtain rfl : z15 = (3 : Int32) := ez15.trans (by decide)
  refine va_sld hx hb Z.2.2.1 Z.2.2.2 hbA hG.1.2.2 (vp_inL (by decide)) dL_law_2099 ?_
  refine lv_topi (fun z16 ez16 => ?_)
  obtain rfl : z16 = sc 3 := ez16.trans (congrArg sc (by decide))
  refine lv_aload_n hx hb dL_law_2100 rfl (lv_at hl 3 rfl) ?_
  refine lv_iload_n hx hb dL_law_2101 rfl (lv_at hl 0 rfl) ?_
  refine lv_iconst (v := (4 : Int32)) hx hb dL_law_2102 (by decide) ?_
  refine lv_iadd hx hb dL_law_2103 ?_
  refine lv_topi (fun z17 ez17 => ?_)
  obtain rfl : z17 = (4 : Int32) := ez17.trans (by decide)
  refine va_sld hx hb Z.2.2.1 Z.2.2.2 hbA hG.1.2.2 (vp_inL (by decide)) dL_law_2104 ?_
  refine lv_topi (fun z18 ez18 => ?_)
  obtain rfl : z18 = sc 4 := ez18.trans (congrArg sc (by decide))
  refine lv_aload_n hx hb dL_law_2105 rfl (lv_at hl 3 rfl) ?_
  refine lv_iload_n hx hb dL_law_2106 rfl (lv_at hl 0 rfl) ?_
  refine lv_iconst (v := (5 : Int32)) hx hb dL_law_2107 (by decide) ?_
  refine lv_iadd hx hb dL_law_2108 ?_
  refine lv_topi (fun z19 ez19 => ?_)
  obtain rfl : z19 = (5 : Int32) := ez19.trans (by decide)
  refine va_sld hx hb Z.2.2.1 Z.2.2.2 hbA hG.1.2.2 (vp_inL (by decide)) dL_law_2109 ?_
  refine lv_topi (fun z20 ez20 => ?_)
  obtain rfl : z20 = sc 5 := ez20.trans (congrArg sc (by decide))
  refine g_ViG C hl.1 (fun _ h => h) hG (As := [.int (sc 1), .int (sc 2), .int (sc 3), .int (sc 4), .int (sc 5)]) (rest := [.int r1]) (m_paste l E K k my fy am_width af_width hw (sc 1) (sc 2) (sc 3) (sc 4) (sc 5)) my_X10_paste wd943 my fy rfl rfl rfl (Nat.le_of_ble_eq_true rfl) ⟨Nat.le_of_ble_eq_true rfl, Nat.le_of_ble_eq_true rfl⟩ ⟨hc, hs⟩ dL_law_2110 (fun r2 K1 k1 H locs hp2 hG => ?_)
  have hG := hG.swap
  refine lv_icmp_eq (tgt := 2118) hx hb dL_law_2113 (by decide) (fun _ => ?_) (fun h => absurd (hp1.trans hp2.symm) h)
  exact law_tail Z hG.1.2.2 hc hs hl
