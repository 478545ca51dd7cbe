/-! THE HEAP AS ONE POOL: addresses L, contents f; every method takes the whole pool and gives it back -/
abbrev gE : Type := (Nat → ClassId) × (Nat → Nat → Nat) × (Nat → ClassId)
abbrev gF : Type := Nat → va_E
abbrev gTy (E : gE) : List (ClassId × FieldType) := [(E.2.2 0, .byte), (E.2.2 1, .int), (E.2.2 2, .long), (E.2.2 3, .boolean), (E.2.2 4, .object "GooseShares$Land"), (E.2.2 5, .object "GooseShares$Row")]
/-- what the tables say, as it goes from call to call -/
def gK (E : gE) (U : State) : Prop := va_K (E.1, E.2.1) vwCl (gTy E) U ∧ (∀ q ∈ gNest, va_Nw (.methodLinkNest q.1 q.2.1 q.2.2.1 q.2.2.2) U) ∧ va_AO "GooseShares$Land" U ∧ va_AO "GooseShares$Row" U
theorem gK.warm {E : gE} {s U : State} (hW : s.WarmedH U.vm) (h : gK E s) : gK E U := ⟨va_K.moved hW.alike h.1, fun q hq => va_Nw.warmM hW (h.2.1 q hq), va_AO.moved hW.alike h.2.2.1, va_AO.moved hW.alike h.2.2.2⟩
theorem gK.blind {E : gE} {U U1 : State} (hv : U.vm = U1.vm) (h : gK E U) : gK E U1 := ⟨va_K.moved (hv ▸ Vm.Alike.refl U.vm) h.1, fun q hq => va_Nw.same rfl hv (h.2.1 q hq), va_AO.moved (hv ▸ Vm.Alike.refl U.vm) h.2.2.1, va_AO.moved (hv ▸ Vm.Alike.refl U.vm) h.2.2.2⟩
def gH (E : gE) (A : Nat → Prop) (L : List Nat) (f : gF) (H0 H : Heap) (locs : List Loc) : Prop := va_P (E.1, E.2.1) vwCl (va_pl L f) H ∧ va_D A (va_pl L f) ∧ va_S A H0 H locs
def gPre (E : gE) (L : List Nat) (f : gF) (sz : Nat) (U : State) : Prop := U.heap.size = sz ∧ va_P (E.1, E.2.1) vwCl (va_pl L f) U.heap ∧ gK E U ∧ va_D (fun _ => True) (va_pl L f)
def gPost (E : gE) (A : Nat → Prop) (u : List Nat × gF) (t : State) : Prop := va_P (E.1, E.2.1) vwCl (va_pl u.1 u.2) t.heap ∧ va_D A (va_pl u.1 u.2)
abbrev gA (L : List Nat) (f : gF) (sz : Nat) : Nat → Prop := va_A (va_pl L f) sz
abbrev gRm (d mc ms : Nat) : Room := { frames := d, cells := mc, slots := ms, locals := 100 * d }
abbrev gQi (E : gE) (A : Nat → Prop) (post : Int32 → List Nat → gF → Prop) : Array Value → State → Outcome → State → Prop := va_Qi (fun r (u : List Nat × gF) => post r u.1 u.2) (gPost E A) A
abbrev gQv (E : gE) (A : Nat → Prop) (post : List Nat → gF → Prop) : Array Value → State → Outcome → State → Prop := va_Qv (fun (u : List Nat × gF) => post u.1 u.2) (gPost E A) A
/-- a method's contract: from the pool (L, f) it returns an int r with the pool (L', f'), post r L' f' -/
def gMi (l : Launch) (E : gE) (y : MethodName) (cc : ByteArray) (nl : Nat) (ret : FieldType) (rm : Room) (av : List Value) (L : List Nat) (f : gF) (post : Int32 → List Nat → gF → Prop) : Prop :=
  ∀ sz : Nat, Met l y (.code y cc nl (some ret) :: gW) rm (va_Pc av (gPre E L f sz)) (gQi E (gA L f sz) post) rm.cells rm.slots (gA L f sz)
def gMv (l : Launch) (E : gE) (y : MethodName) (cc : ByteArray) (nl : Nat) (rm : Room) (av : List Value) (L : List Nat) (f : gF) (post : List Nat → gF → Prop) : Prop :=
  ∀ sz : Nat, Met l y (.code y cc nl none :: gW) rm (va_Pc av (gPre E L f sz)) (gQv E (gA L f sz) post) rm.cells rm.slots (gA L f sz)
/-- what is fixed in a walk -/
def gC (E : gE) (cc : ByteArray) (nl : Nat) (own : String) (p : Program) (s : State) (m : MethodId) (args : Array Value) (meth : Method) (c : Code) : Prop :=
  p.tables.exec = Jvm.exec ∧ c.code = cc ∧ c.maxLocals = nl ∧ s.vm.findClass own = some m.cls ∧ (∀ w ∈ gW, w.before args s = true) ∧ gK E s ∧ meth.locks = false
theorem g_at {L : List Nat} {f : gF} {a : Nat} (ha : a ∈ L) : ∃ k : Nat, (va_pl L f)[k]? = some (a, f a) := va_pl_get (X := []) ha
theorem g_ne {f : gF} {a b : Nat} {e1 e2 : va_E} (h1 : f a = e1) (h2 : f b = e2) (h : e1 ≠ e2) : a ≠ b := fun e => h (by rw [← h1, ← h2, e])
theorem g_neO {f : gF} {a b i j : Nat} {x y : List Value} (h1 : f a = .inr (i, x)) (h2 : f b = .inr (j, y)) (h : i ≠ j) : a ≠ b := g_ne h1 h2 (fun e => h (congrArg Prod.fst (Sum.inr.inj e)))
theorem g_neAO {f : gF} {a b i : Nat} {x : List Value} {z : ClassId × vp_A} (h1 : f a = .inl z) (h2 : f b = .inr (i, x)) : a ≠ b := g_ne h1 h2 (fun e => nomatch e)
theorem g_neOA {f : gF} {a b i : Nat} {x : List Value} {z : ClassId × vp_A} (h1 : f a = .inr (i, x)) (h2 : f b = .inl z) : a ≠ b := g_ne h1 h2 (fun e => nomatch e)
theorem g_neL {L : List Nat} {a q : Nat} (ha : a ∈ L) (hq : q ∉ L) : a ≠ q := fun e => hq (e ▸ ha)
section GW
variable {p : Program} {l : Launch} {e : Env} {R : Room} {s : State} {m : MethodId} {args : Array Value} {below : List Frame} {meth : Method} {c : Code} {H H0 : Heap} {locs : List Loc} {cells slots : Nat} {Q : State → Prop}
variable {E : gE} {cc : ByteArray} {nl : Nat} {own : String} {A : Nat → Prop} {L : List Nat} {f : gF} {pc : Nat} {ls : Array Slot} {rest : List Value} {a : Nat}
theorem g_get (C : gC E cc nl own p s m args meth c) (hH : gH E A L f H0 H locs) (ha : a ∈ L) {ci : Nat} {fs : List Value} (hf : f a = .inr (ci, fs)) {Cn ref : String} {T : u_T} {N index : Nat} (hin : ∀ w ∈ u_ws Cn T N, w ∈ gW) (hc : vwCl[ci]? = some (Cn, T, N)) (k : Nat) (hk : k < N) (hlink : Cond.fieldLink own index ref (T k).2.1 (T k).2.2.1 ∈ gW) (hsame : (T k).1 = ref) {v : Value} (hv : fs[k]? = some v) (hdg : decode cc pc = .ok (.getfield index, 3))
    (kk : W p l e R s m args below meth c H locs cells slots Q (F0 m (pc + 3) ls (v :: rest))) : W p l e R s m args below meth c H locs cells slots Q (F0 m pc ls (.ref a :: rest)) := by
  obtain ⟨hx, hb, hml, hown, hts, hK, hlk⟩ := C
  obtain ⟨q0, hq⟩ := g_at (f := f) ha
  rw [hf] at hq
  exact va_get hx hb hts hin hown hK.1 hH.1 q0 hq hc k hk (hts _ hlink) (fun x h => hsame ▸ h) hv hdg kk
theorem g_put (C : gC E cc nl own p s m args meth c) (hH : gH E A L f H0 H locs) (ha : a ∈ L) {ci : Nat} {fs fs' : List Value} (hf : f a = .inr (ci, fs)) {Cn ref : String} {T : u_T} {N index : Nat} (hin : ∀ w ∈ u_ws Cn T N, w ∈ gW) (ty0 : Nat → FieldType) (hty : ∀ k, k < N → parseFieldDescriptor (T k).2.2.1 = some (ty0 k)) (hnm : ∀ a, a < N → ∀ b, b < N → a ≠ b → (T a).2.1 ≠ (T b).2.1) (hc : vwCl[ci]? = some (Cn, T, N)) (k : Nat) (hk : k < N) (hlink : Cond.fieldLink own index ref (T k).2.1 (T k).2.2.1 ∈ gW) (hsame : (T k).1 = ref) (hfin : (T k).2.2.2 = false) {v : Value} (hn : narrow (ty0 k) v = v) (hfit : fits (ty0 k) v = true) (hl : k < fs.length) (hfs : fs.set k v = fs') (hdg : decode cc pc = .ok (.putfield index, 3))
    (kk : ∀ (H1 : Heap) (locs1 : List Loc), gH E A L (va_up f a (.inr (ci, fs'))) H0 H1 locs1 → W p l e R s m args below meth c H1 locs1 cells slots Q (F0 m (pc + 3) ls rest)) : W p l e R s m args below meth c H locs cells slots Q (F0 m pc ls (v :: .ref a :: rest)) := by
  obtain ⟨hx, hb, hml, hown, hts, hK, hlk⟩ := C
  obtain ⟨q0, hq0⟩ := g_at (f := f) ha
  have hq := hq0
  rw [hf] at hq
  refine va_put hx hb hts hin ty0 hty hnm hown hK.1 hH.1 hH.2.1 hH.2.2 q0 hq hc k hk (hts _ hlink) (fun x h => hsame ▸ h) hfin (hty k hk) hn hfit hl hdg (fun H1 locs1 h1 h2 h3 => ?_)
  subst hfs
  have he := va_pl_set (X := []) (e := (.inr (ci, fs.set k v) : va_E)) hH.2.1 ha hq0
  exact kk H1 locs1 ⟨by rw [← List.nil_append (va_pl L _), ← he]; exact h1, by rw [← List.nil_append (va_pl L _), ← he]; exact h2, h3⟩
theorem g_putF (C : gC E cc nl own p s m args meth c) (hH : gH E A L f H0 H locs) (ha : a ∈ L) {ci : Nat} {fs fs' : List Value} (hf : f a = .inr (ci, fs)) {Cn ref : String} {T : u_T} {N index : Nat} (hin : ∀ w ∈ u_ws Cn T N, w ∈ gW) (ty0 : Nat → FieldType) (hty : ∀ k, k < N → parseFieldDescriptor (T k).2.2.1 = some (ty0 k)) (hnm : ∀ a, a < N → ∀ b, b < N → a ≠ b → (T a).2.1 ≠ (T b).2.1) (hc : vwCl[ci]? = some (Cn, T, N)) (k : Nat) (hk : k < N) (hlink : Cond.fieldLink own index ref (T k).2.1 (T k).2.2.1 ∈ gW) (hsame : (T k).1 = ref) (hfin : (T k).2.2.2 = true) (hin2 : meth.name = "<init>") (hdecl : (T k).1 = own) {v : Value} (hn : narrow (ty0 k) v = v) (hfit : fits (ty0 k) v = true) (hl : k < fs.length) (hfs : fs.set k v = fs') (hdg : decode cc pc = .ok (.putfield index, 3))
    (kk : ∀ (H1 : Heap) (locs1 : List Loc), gH E A L (va_up f a (.inr (ci, fs'))) H0 H1 locs1 → W p l e R s m args below meth c H1 locs1 cells slots Q (F0 m (pc + 3) ls rest)) : W p l e R s m args below meth c H locs cells slots Q (F0 m pc ls (v :: .ref a :: rest)) := by
  obtain ⟨hx, hb, hml, hown, hts, hK, hlk⟩ := C
  obtain ⟨q0, hq0⟩ := g_at (f := f) ha
  have hq := hq0
  rw [hf] at hq
  refine va_putF hx hb hts hin ty0 hty hnm hown hK.1 hH.1 hH.2.1 hH.2.2 q0 hq hc k hk (hts _ hlink) (fun x h => hsame ▸ h) hfin hin2 hdecl (hty k hk) hn hfit hl hdg (fun H1 locs1 h1 h2 h3 => ?_)
  subst hfs
  have he := va_pl_set (X := []) (e := (.inr (ci, fs.set k v) : va_E)) hH.2.1 ha hq0
  exact kk H1 locs1 ⟨by rw [← List.nil_append (va_pl L _), ← he]; exact h1, by rw [← List.nil_append (va_pl L _), ← he]; exact h2, h3⟩
theorem g_pushL {ws1 : va_W} {q : Nat} {x : va_E} (h2 : va_D A (va_pl L f ++ [(q, x)])) : q ∉ L := by
  intro hq
  obtain ⟨k, hk⟩ := g_at (f := f) hq
  have hlt : k < (va_pl L f).length := (List.getElem?_eq_some_iff.mp hk).1
  have h3 := h2.1 k (va_pl L f).length (q, f q) (q, x) (by rw [List.getElem?_append_left hlt]; exact hk) (by simp) rfl
  omega
theorem g_new (C : gC E cc nl own p s m args meth c) (hH : gH E A L f H0 H locs) (hA : ∀ q, H0.size ≤ q → A q) {ci : Nat} {Cn : String} {T : u_T} {N index : Nat} (hin : ∀ w ∈ u_ws Cn T N, w ∈ gW) (ty0 : Nat → FieldType) (hty : ∀ k, k < N → parseFieldDescriptor (T k).2.2.1 = some (ty0 k)) (hcl : Cond.classLink own index Cn ∈ gW) (hinst : Cond.instantiable Cn N ∈ gW) (hini : Cond.initialized Cn ∈ gW) (hc : vwCl[ci]? = some (Cn, T, N)) {fs : List Value} (hfs : ∀ j, j < N → defaultValue (ty0 j) = vp_V fs j) (hcells : cells + 1 ≤ R.cells) (hslots : slots + N ≤ R.slots) (hdg : decode cc pc = .ok (.new index, 3))
    (kk : ∀ (q : Nat) (H1 : Heap), q ∉ L → gH E A (L ++ [q]) (va_up f q (.inr (ci, fs))) H0 H1 locs → W p l e R s m args below meth c H1 locs (cells + 1) (slots + N) Q (F0 m (pc + 3) ls (.ref q :: rest))) : W p l e R s m args below meth c H locs cells slots Q (F0 m pc ls rest) := by
  obtain ⟨hx, hb, hml, hown, hts, hK, hlk⟩ := C
  refine va_new hx hb hts hin ty0 hty hown (hts _ hcl) (hts _ hinst) (hts _ hini) hK.1 hH.1 hH.2.1 hH.2.2 hA hc hfs hcells hslots hdg (fun q H1 h1 h2 h3 => ?_)
  have hq : q ∉ L := g_pushL (ws1 := []) h2
  rw [va_pl_push hq] at h1 h2
  exact kk q H1 hq ⟨h1, h2, h3⟩
theorem g_newa (C : gC E cc nl own p s m args meth c) (hH : gH E A L f H0 H locs) (hA : ∀ q, H0.size ≤ q → A q) {atype : ArrayType} {ty : FieldType} {cA : ClassId} (t0 : Nat) (hcA : (gTy E)[t0]? = some (cA, ty)) (hra : ∀ (U : State) (z : ClassId), va_RA U z ty → U.vm.findClass ("[" ++ ty.toString) = some z) (harr : Cond.arrayClass ty ∈ gW) (hty : newarray.typeOf atype = ty) {n : Int32} {N' : Nat} {a0 : vp_A} (ha : ∀ z : ClassId, vp_cell z a0 = arrV z N' (fun _ => defaultValue ty)) (hn : ¬ n < 0) (hN : n.toNatClampNeg = N') (hbytes : N' * componentBytes ty ≤ 536870912) (hcells : cells + 1 ≤ R.cells) (hslots : slots + N' ≤ R.slots) (hdg : decode cc pc = .ok (.newarray atype, 2))
    (kk : ∀ (q : Nat) (H1 : Heap), q ∉ L → gH E A (L ++ [q]) (va_up f q (.inl (cA, a0))) H0 H1 locs → W p l e R s m args below meth c H1 locs (cells + 1) (slots + N') Q (F0 m (pc + 2) ls (.ref q :: rest))) : W p l e R s m args below meth c H locs cells slots Q (F0 m pc ls (.int n :: rest)) := by
  obtain ⟨hx, hb, hml, hown, hts, hK, hlk⟩ := C
  have h9 := hra s cA (hK.1.2 t0 _ hcA).2
  refine va_newa hx hb (by rw [hty]; exact hts _ harr) hty hK.1 hH.1 hH.2.1 hH.2.2 hA ha hn hN hbytes hcells hslots hdg (fun q z H1 h0 h1 h2 h3 => ?_)
  have hz := hra s z (h0.2 (gTy E).length (z, ty) (by simp)).2
  have hzz : z = cA := Option.some.inj (hz.symm.trans h9)
  subst hzz
  have hq : q ∉ L := g_pushL (ws1 := []) h2
  rw [va_pl_push hq] at h1 h2
  exact kk q H1 hq ⟨h1, h2, h3⟩
theorem g_newq (C : gC E cc nl own p s m args meth c) (hH : gH E A L f H0 H locs) (hA : ∀ q, H0.size ≤ q → A q) {Cn : String} {index : Nat} {cA : ClassId} (t0 : Nat) (hcA : (gTy E)[t0]? = some (cA, .object Cn)) (hclink : Cond.classLink own index Cn ∈ gW) (hover : gK E s → va_AO Cn s) {n : Int32} {N' : Nat} (hn : ¬ n < 0) (hN : n.toNatClampNeg = N') (hbytes : N' * 4 ≤ 536870912) (hcells : cells + 1 ≤ R.cells) (hslots : slots + N' ≤ R.slots) (hdg : decode cc pc = .ok (.anewarray index, 3))
    (kk : ∀ (q : Nat) (H1 : Heap), q ∉ L → gH E A (L ++ [q]) (va_up f q (.inl (cA, N', .inr (.inr (.inr (.inr (fun _ => none))))))) H0 H1 locs → W p l e R s m args below meth c H1 locs (cells + 1) (slots + N') Q (F0 m (pc + 3) ls (.ref q :: rest))) : W p l e R s m args below meth c H locs cells slots Q (F0 m pc ls (.int n :: rest)) := by
  obtain ⟨hx, hb, hml, hown, hts, hK, hlk⟩ := C
  obtain ⟨-, -, -, -, -, h9⟩ := (hK.1.2 t0 _ hcA).2
  refine va_newq hx hb hown (hts _ hclink) (hover hK) hK.1 hH.1 hH.2.1 hH.2.2 hA hn hN hbytes hcells hslots hdg (fun q z H1 h0 h1 h2 h3 => ?_)
  obtain ⟨-, -, -, -, -, hz⟩ := (h0.2 (gTy E).length (z, .object Cn) (by simp)).2
  have hzz : z = cA := Option.some.inj (hz.symm.trans h9)
  subst hzz
  have hq : q ∉ L := g_pushL (ws1 := []) h2
  rw [va_pl_push hq] at h1 h2
  exact kk q H1 hq ⟨h1, h2, h3⟩
/-- an entry changed, its address stays -/
theorem g_upd (hH : gH E A L f H0 H locs) (ha : a ∈ L) {q0 : Nat} (hq0 : (va_pl L f)[q0]? = some (a, f a)) {x : va_E} {H1 : Heap} {locs1 : List Loc} (h1 : va_P (E.1, E.2.1) vwCl ((va_pl L f).set q0 (a, x)) H1) (h2 : va_D A ((va_pl L f).set q0 (a, x))) (h3 : va_S A H0 H1 locs1) : gH E A L (va_up f a x) H0 H1 locs1 := by
  have he := va_pl_set (X := []) (e := x) hH.2.1 ha hq0
  exact ⟨by rw [← List.nil_append (va_pl L _), ← he]; exact h1, by rw [← List.nil_append (va_pl L _), ← he]; exact h2, h3⟩
theorem g_iald (C : gC E cc nl own p s m args meth c) (hH : gH E A L f H0 H locs) (ha : a ∈ L) {n : Nat} {v : Nat → Int32} (hf : f a = .inl (E.2.2 1, n, .inl v)) {i : Int32} (hin : vp_in i n) (hdg : decode cc pc = .ok (.iaload, 1))
    (kk : W p l e R s m args below meth c H locs cells slots Q (F0 m (pc + 1) ls (.int (v i.toNatClampNeg) :: rest))) : W p l e R s m args below meth c H locs cells slots Q (F0 m pc ls (.int i :: .ref a :: rest)) := by
  obtain ⟨hx, hb, hml, hown, hts, hK, hlk⟩ := C
  obtain ⟨q0, hq⟩ := g_at (f := f) ha
  rw [hf] at hq
  exact va_iald hx hb hK.1 hH.1 q0 1 hq rfl hin hdg kk
theorem g_bald (C : gC E cc nl own p s m args meth c) (hH : gH E A L f H0 H locs) (ha : a ∈ L) {n : Nat} {v : Nat → Int32} (hf : f a = .inl (E.2.2 0, n, .inl v)) {i : Int32} (hin : vp_in i n) (hdg : decode cc pc = .ok (.baload, 1))
    (kk : W p l e R s m args below meth c H locs cells slots Q (F0 m (pc + 1) ls (.int (v i.toNatClampNeg) :: rest))) : W p l e R s m args below meth c H locs cells slots Q (F0 m pc ls (.int i :: .ref a :: rest)) := by
  obtain ⟨hx, hb, hml, hown, hts, hK, hlk⟩ := C
  obtain ⟨q0, hq⟩ := g_at (f := f) ha
  rw [hf] at hq
  exact va_bald hx hb hK.1 hH.1 q0 0 hq rfl hin hdg kk
theorem g_zald (C : gC E cc nl own p s m args meth c) (hH : gH E A L f H0 H locs) (ha : a ∈ L) {n : Nat} {v : Nat → Int32} (hf : f a = .inl (E.2.2 3, n, .inl v)) {i : Int32} (hin : vp_in i n) (hdg : decode cc pc = .ok (.baload, 1))
    (kk : W p l e R s m args below meth c H locs cells slots Q (F0 m (pc + 1) ls (.int (v i.toNatClampNeg) :: rest))) : W p l e R s m args below meth c H locs cells slots Q (F0 m pc ls (.int i :: .ref a :: rest)) := by
  obtain ⟨hx, hb, hml, hown, hts, hK, hlk⟩ := C
  obtain ⟨q0, hq⟩ := g_at (f := f) ha
  rw [hf] at hq
  exact va_zald hx hb hK.1 hH.1 q0 3 hq rfl hin hdg kk
theorem g_lald (C : gC E cc nl own p s m args meth c) (hH : gH E A L f H0 H locs) (ha : a ∈ L) {n : Nat} {v : Nat → Int64} (hf : f a = .inl (E.2.2 2, n, .inr (.inl v))) {i : Int32} (hin : vp_in i n) (hdg : decode cc pc = .ok (.laload, 1))
    (kk : W p l e R s m args below meth c H locs cells slots Q (F0 m (pc + 1) ls (.long (v i.toNatClampNeg) :: rest))) : W p l e R s m args below meth c H locs cells slots Q (F0 m pc ls (.int i :: .ref a :: rest)) := by
  obtain ⟨hx, hb, hml, hown, hts, hK, hlk⟩ := C
  obtain ⟨q0, hq⟩ := g_at (f := f) ha
  rw [hf] at hq
  exact va_lald hx hb hK.1 hH.1 q0 2 hq rfl hin hdg kk
theorem g_aald (C : gC E cc nl own p s m args meth c) (hH : gH E A L f H0 H locs) (ha : a ∈ L) {n : Nat} {v : Nat → Option Nat} {cA : ClassId} {Cn : String} (t0 : Nat) (hcA : (gTy E)[t0]? = some (cA, .object Cn)) (hf : f a = .inl (cA, n, .inr (.inr (.inr (.inr v))))) {i : Int32} (hin : vp_in i n) {b : Nat} (hv : v i.toNatClampNeg = some b) (hdg : decode cc pc = .ok (.aaload, 1))
    (kk : W p l e R s m args below meth c H locs cells slots Q (F0 m (pc + 1) ls (.ref b :: rest))) : W p l e R s m args below meth c H locs cells slots Q (F0 m pc ls (.int i :: .ref a :: rest)) := by
  obtain ⟨hx, hb, hml, hown, hts, hK, hlk⟩ := C
  obtain ⟨q0, hq⟩ := g_at (f := f) ha
  rw [hf] at hq
  exact va_aldq hx hb hK.1 hH.1 q0 t0 hq hcA hin hdg (by rw [hv]; exact kk)
theorem g_iast (C : gC E cc nl own p s m args meth c) (hH : gH E A L f H0 H locs) (ha : a ∈ L) {n : Nat} {v : Nat → Int32} (hf : f a = .inl (E.2.2 1, n, .inl v)) {i x : Int32} (hin : vp_in i n) (hdg : decode cc pc = .ok (.iastore, 1))
    (kk : ∀ (H1 : Heap) (locs1 : List Loc), gH E A L (va_up f a (.inl (E.2.2 1, n, .inl (upd v i.toNatClampNeg x)))) H0 H1 locs1 → W p l e R s m args below meth c H1 locs1 cells slots Q (F0 m (pc + 1) ls rest)) : W p l e R s m args below meth c H locs cells slots Q (F0 m pc ls (.int x :: .int i :: .ref a :: rest)) := by
  obtain ⟨hx, hb, hml, hown, hts, hK, hlk⟩ := C
  obtain ⟨q0, hq0⟩ := g_at (f := f) ha
  have hq := hq0
  rw [hf] at hq
  exact va_iast hx hb hK.1 hH.1 hH.2.1 hH.2.2 q0 1 hq rfl hin hdg (fun H1 locs1 h1 h2 h3 => kk H1 locs1 (g_upd hH ha hq0 h1 h2 h3))
theorem g_bast (C : gC E cc nl own p s m args meth c) (hH : gH E A L f H0 H locs) (ha : a ∈ L) {n : Nat} {v : Nat → Int32} (hf : f a = .inl (E.2.2 0, n, .inl v)) {i x : Int32} (hin : vp_in i n) (hdg : decode cc pc = .ok (.bastore, 1))
    (kk : ∀ (H1 : Heap) (locs1 : List Loc), gH E A L (va_up f a (.inl (E.2.2 0, n, .inl (upd v i.toNatClampNeg (vp_nar .byte x))))) H0 H1 locs1 → W p l e R s m args below meth c H1 locs1 cells slots Q (F0 m (pc + 1) ls rest)) : W p l e R s m args below meth c H locs cells slots Q (F0 m pc ls (.int x :: .int i :: .ref a :: rest)) := by
  obtain ⟨hx, hb, hml, hown, hts, hK, hlk⟩ := C
  obtain ⟨q0, hq0⟩ := g_at (f := f) ha
  have hq := hq0
  rw [hf] at hq
  exact va_bast hx hb hK.1 hH.1 hH.2.1 hH.2.2 q0 0 hq rfl hin hdg (fun H1 locs1 h1 h2 h3 => kk H1 locs1 (g_upd hH ha hq0 h1 h2 h3))
theorem g_zast (C : gC E cc nl own p s m args meth c) (hH : gH E A L f H0 H locs) (ha : a ∈ L) {n : Nat} {v : Nat → Int32} (hf : f a = .inl (E.2.2 3, n, .inl v)) {i x : Int32} (hin : vp_in i n) (hdg : decode cc pc = .ok (.bastore, 1))
    (kk : ∀ (H1 : Heap) (locs1 : List Loc), gH E A L (va_up f a (.inl (E.2.2 3, n, .inl (upd v i.toNatClampNeg (vp_nar .boolean x))))) H0 H1 locs1 → W p l e R s m args below meth c H1 locs1 cells slots Q (F0 m (pc + 1) ls rest)) : W p l e R s m args below meth c H locs cells slots Q (F0 m pc ls (.int x :: .int i :: .ref a :: rest)) := by
  obtain ⟨hx, hb, hml, hown, hts, hK, hlk⟩ := C
  obtain ⟨q0, hq0⟩ := g_at (f := f) ha
  have hq := hq0
  rw [hf] at hq
  exact va_zast hx hb hK.1 hH.1 hH.2.1 hH.2.2 q0 3 hq rfl hin hdg (fun H1 locs1 h1 h2 h3 => kk H1 locs1 (g_upd hH ha hq0 h1 h2 h3))
theorem g_last (C : gC E cc nl own p s m args meth c) (hH : gH E A L f H0 H locs) (ha : a ∈ L) {n : Nat} {v : Nat → Int64} (hf : f a = .inl (E.2.2 2, n, .inr (.inl v))) {i : Int32} {x : Int64} (hin : vp_in i n) (hdg : decode cc pc = .ok (.lastore, 1))
    (kk : ∀ (H1 : Heap) (locs1 : List Loc), gH E A L (va_up f a (.inl (E.2.2 2, n, .inr (.inl (vp_updL v i.toNatClampNeg x))))) H0 H1 locs1 → W p l e R s m args below meth c H1 locs1 cells slots Q (F0 m (pc + 1) ls rest)) : W p l e R s m args below meth c H locs cells slots Q (F0 m pc ls (.long x :: .int i :: .ref a :: rest)) := by
  obtain ⟨hx, hb, hml, hown, hts, hK, hlk⟩ := C
  obtain ⟨q0, hq0⟩ := g_at (f := f) ha
  have hq := hq0
  rw [hf] at hq
  exact va_last hx hb hK.1 hH.1 hH.2.1 hH.2.2 q0 2 hq rfl hin hdg (fun H1 locs1 h1 h2 h3 => kk H1 locs1 (g_upd hH ha hq0 h1 h2 h3))
theorem g_alen (C : gC E cc nl own p s m args meth c) (hH : gH E A L f H0 H locs) (ha : a ∈ L) {x : vp_A} {cA : ClassId} {ty : FieldType} (t0 : Nat) (hcA : (gTy E)[t0]? = some (cA, ty)) (hf : f a = .inl (cA, x)) {v : Int32} (hv : nI x.1 = v) (hdg : decode cc pc = .ok (.arraylength, 1))
    (kk : W p l e R s m args below meth c H locs cells slots Q (F0 m (pc + 1) ls (.int v :: rest))) : W p l e R s m args below meth c H locs cells slots Q (F0 m pc ls (.ref a :: rest)) := by
  obtain ⟨hx, hb, hml, hown, hts, hK, hlk⟩ := C
  obtain ⟨q0, hq⟩ := g_at (f := f) ha
  rw [hf] at hq
  exact va_alen hx hb hK.1 hH.1 q0 t0 hq hcA hv hdg kk
end GW
section GC
variable {p : Program} {l : Launch} {e : Env} {R : Room} {s : State} {m : MethodId} {args : Array Value} {below : List Frame} {meth : Method} {c : Code} {H H0 : Heap} {locs : List Loc} {cells slots : Nat} {Q : State → Prop}
variable {E : gE} {cc : ByteArray} {nl : Nat} {own : String} {A : Nat → Prop} {L : List Nat} {f : gF} {pc : Nat} {ls : Array Slot} {rest : List Value} {a : Nat}
theorem g_aast (C : gC E cc nl own p s m args meth c) (hH : gH E A L f H0 H locs) (ha : a ∈ L) {n b : Nat} {v : Nat → Option Nat} {cA : ClassId} {Cn : String} {T : u_T} {N ci : Nat} {vs : List Value} (t0 : Nat) (hcA : (gTy E)[t0]? = some (cA, .object Cn)) (hf : f a = .inl (cA, n, .inr (.inr (.inr (.inr v))))) (hbL : b ∈ L) (hfb : f b = .inr (ci, vs)) (hc : vwCl[ci]? = some (Cn, T, N)) {i : Int32} (hin : vp_in i n) (hdg : decode cc pc = .ok (.aastore, 1))
    (kk : ∀ (H1 : Heap) (locs1 : List Loc), gH E A L (va_up f a (.inl (cA, n, .inr (.inr (.inr (.inr (va_up v i.toNatClampNeg (some b)))))))) H0 H1 locs1 → W p l e R s m args below meth c H1 locs1 cells slots Q (F0 m (pc + 1) ls rest)) : W p l e R s m args below meth c H locs cells slots Q (F0 m pc ls (.ref b :: .int i :: .ref a :: rest)) := by
  obtain ⟨hx, hb, hml, hown, hts, hK, hlk⟩ := C
  obtain ⟨q0, hq0⟩ := g_at (f := f) ha
  have hq := hq0
  rw [hf] at hq
  obtain ⟨q1, hq1⟩ := g_at (f := f) hbL
  rw [hfb] at hq1
  exact va_astq (r := (Cn, T, N)) hx hb hK.1 hH.1 hH.2.1 hH.2.2 q0 t0 q1 ci hq hcA hq1 hc hin hdg (fun H1 locs1 h1 h2 h3 => kk H1 locs1 (g_upd hH ha hq0 h1 h2 h3))
theorem g_copyi (C : gC E cc nl own p s m args meth c) (hls : nl = ls.size) (hH : gH E A L f H0 H locs) {index : Nat} (hlink : Cond.methodLink own index arraycopyName ∈ gW) (hnat : Cond.native arraycopyName ∈ gW) (hstat : Cond.static arraycopyName ∈ gW) (hini : Cond.initialized "java/lang/System" ∈ gW) {a0 n0 n1 : Nat} {u v : Nat → Int32} (ha0 : a0 ∈ L) (hf0 : f a0 = .inl (E.2.2 1, n0, .inl u)) (ha : a ∈ L) (hf1 : f a = .inl (E.2.2 1, n1, .inl v)) {sp dp n : Int32} (h1 : ¬ sp < 0) (h2 : ¬ dp < 0) (h3 : ¬ n < 0) (h4 : sp.toNatClampNeg + n.toNatClampNeg ≤ n0) (h5 : dp.toNatClampNeg + n.toNatClampNeg ≤ n1) (hframes : 1 ≤ R.frames) (hlocals : (rest.map fun v => v.category).sum + (nativeFrameWords "java/lang/System" "arraycopy" 5 + 11) ≤ R.locals) (hdg : decode cc pc = .ok (.invokestatic index, 3))
    (kk : ∀ (H1 : Heap) (locs1 : List Loc), gH E A L (va_up f a (.inl (E.2.2 1, n1, .inl (va_cpy u v sp.toNatClampNeg dp.toNatClampNeg n.toNatClampNeg)))) H0 H1 locs1 → W p l e R s m args below meth c H1 locs1 cells slots Q (F0 m (pc + 3) ls rest)) : W p l e R s m args below meth c H locs cells slots Q (F0 m pc ls (.int n :: .int dp :: .ref a :: .int sp :: .ref a0 :: rest)) := by
  obtain ⟨hx, hb, hml, hown, hts, hK, hlk⟩ := C
  obtain ⟨q1, hq0⟩ := g_at (f := f) ha
  have hq1 := hq0
  rw [hf1] at hq1
  obtain ⟨q0, hq⟩ := g_at (f := f) ha0
  rw [hf0] at hq
  exact va_copyi hx hb (hml.trans hls) hown (hts _ hlink) (hts _ hnat) (hts _ hstat) (hts _ hini) hK.1 hH.1 hH.2.1 hH.2.2 q0 q1 1 1 hq hq1 rfl rfl rfl h1 h2 h3 h4 h5 (fun _ _ => rfl) hframes hlocals hdg (fun H1 locs1 k1 k2 k3 => kk H1 locs1 (g_upd hH ha hq0 k1 k2 k3))
theorem g_copyl (C : gC E cc nl own p s m args meth c) (hls : nl = ls.size) (hH : gH E A L f H0 H locs) {index : Nat} (hlink : Cond.methodLink own index arraycopyName ∈ gW) (hnat : Cond.native arraycopyName ∈ gW) (hstat : Cond.static arraycopyName ∈ gW) (hini : Cond.initialized "java/lang/System" ∈ gW) {a0 n0 n1 : Nat} {u v : Nat → Int64} (ha0 : a0 ∈ L) (hf0 : f a0 = .inl (E.2.2 2, n0, .inr (.inl u))) (ha : a ∈ L) (hf1 : f a = .inl (E.2.2 2, n1, .inr (.inl v))) {sp dp n : Int32} (h1 : ¬ sp < 0) (h2 : ¬ dp < 0) (h3 : ¬ n < 0) (h4 : sp.toNatClampNeg + n.toNatClampNeg ≤ n0) (h5 : dp.toNatClampNeg + n.toNatClampNeg ≤ n1) (hframes : 1 ≤ R.frames) (hlocals : (rest.map fun v => v.category).sum + (nativeFrameWords "java/lang/System" "arraycopy" 5 + 11) ≤ R.locals) (hdg : decode cc pc = .ok (.invokestatic index, 3))
    (kk : ∀ (H1 : Heap) (locs1 : List Loc), gH E A L (va_up f a (.inl (E.2.2 2, n1, .inr (.inl (va_cpy u v sp.toNatClampNeg dp.toNatClampNeg n.toNatClampNeg))))) H0 H1 locs1 → W p l e R s m args below meth c H1 locs1 cells slots Q (F0 m (pc + 3) ls rest)) : W p l e R s m args below meth c H locs cells slots Q (F0 m pc ls (.int n :: .int dp :: .ref a :: .int sp :: .ref a0 :: rest)) := by
  obtain ⟨hx, hb, hml, hown, hts, hK, hlk⟩ := C
  obtain ⟨q1, hq0⟩ := g_at (f := f) ha
  have hq1 := hq0
  rw [hf1] at hq1
  obtain ⟨q0, hq⟩ := g_at (f := f) ha0
  rw [hf0] at hq
  exact va_copyl hx hb (hml.trans hls) hown (hts _ hlink) (hts _ hnat) (hts _ hstat) (hts _ hini) hK.1 hH.1 hH.2.1 hH.2.2 q0 q1 2 2 hq hq1 rfl rfl rfl h1 h2 h3 h4 h5 (fun _ _ => rfl) hframes hlocals hdg (fun H1 locs1 k1 k2 k3 => kk H1 locs1 (g_upd hH ha hq0 k1 k2 k3))
theorem g_obj (C : gC E cc nl own p s m args meth c) (hls : ls.size = nl) {idx : Nat} (hlink : Cond.methodLink own idx Lib.objectInit ∈ gW) (hinst : Cond.instanceMethod Lib.objectInit ∈ gW) (hcode : Cond.code Lib.objectInit ⟨#[0xb1]⟩ 1 none ∈ gW) (hd : decode cc pc = .ok (.invokespecial idx, 3)) (hframes : 1 ≤ R.frames) (hlocals : (rest.map fun v => v.category).sum + 12 ≤ R.locals)
    (kk : W p l e R s m args below meth c H locs cells slots Q (F0 m (pc + 3) ls rest)) : W p l e R s m args below meth c H locs cells slots Q (F0 m pc ls (.ref a :: rest)) := by
  obtain ⟨hx, hb, hml, hown, hts, hK, hlk⟩ := C
  exact W.objInit hx hb hown (hts _ hlink) (hts _ hinst) (hts _ hcode) rfl (by rw [hml]; exact hls) rfl hd hframes (by simpa [JFrame.monitorRoom] using hlocals) kk
theorem g_free (hH : gH E A L f H0 H locs) (hA : ∀ q, H0.size ≤ q → A q) : ∀ q, gA L f H.size q → A q := by
  intro q hq
  rcases hq with ⟨k, x, hk⟩ | hq
  · exact hH.2.1.2 k _ hk
  · exact hA q (Nat.le_trans hH.2.2.1 hq)
theorem g_calli {mc ms : Nat} {st0 : List Value} {av : Array Value} {post : Int32 → List Nat → gF → Prop} (hH : gH E A L f H0 H locs) (hA : ∀ q, H0.size ≤ q → A q) (hr : va_Run p l e R s m args below meth c H locs cells slots mc ms (F0 m pc ls st0) rest (gQi E (gA L f H.size) post av) (gA L f H.size))
    (kk : ∀ (r : Int32) (L1 : List Nat) (f1 : gF) (H1 : Heap) (locs1 : List Loc), post r L1 f1 → gH E A L1 f1 H0 H1 locs1 → W p l e R s m args below meth c H1 locs1 (cells + mc) (slots + ms) Q (F0 m (pc + 3) ls (.int r :: rest))) : W p l e R s m args below meth c H locs cells slots Q (F0 m pc ls st0) := by
  have hF := g_free hH hA
  refine va_calli hr hH.2.2 (fun q _ h => hF q h) hF (fun r u t H1 locs1 ht hvm hw hB hz1 hk1 hS => ?_)
  obtain ⟨hP1, hD1⟩ := hB
  rw [ht] at hP1
  exact kk r u.1 u.2 H1 locs1 hw ⟨hP1, hD1.weaken (fun _ _ _ h => hF _ h), hS⟩
theorem g_callv {mc ms : Nat} {st0 : List Value} {av : Array Value} {post : List Nat → gF → Prop} (hH : gH E A L f H0 H locs) (hA : ∀ q, H0.size ≤ q → A q) (hr : va_Run p l e R s m args below meth c H locs cells slots mc ms (F0 m pc ls st0) rest (gQv E (gA L f H.size) post av) (gA L f H.size))
    (kk : ∀ (L1 : List Nat) (f1 : gF) (H1 : Heap) (locs1 : List Loc), post L1 f1 → gH E A L1 f1 H0 H1 locs1 → W p l e R s m args below meth c H1 locs1 (cells + mc) (slots + ms) Q (F0 m (pc + 3) ls rest)) : W p l e R s m args below meth c H locs cells slots Q (F0 m pc ls st0) := by
  have hF := g_free hH hA
  refine va_callv hr hH.2.2 (fun q _ h => hF q h) hF (fun u t H1 locs1 ht hvm hw hB hz1 hk1 hS => ?_)
  obtain ⟨hP1, hD1⟩ := hB
  rw [ht] at hP1
  exact kk u.1 u.2 H1 locs1 hw ⟨hP1, hD1.weaken (fun _ _ _ h => hF _ h), hS⟩
theorem g_blind {av : List Value} {sz : Nat} : FrameBlind (va_Pc av (gPre E L f sz)) := fun a U g mk q => ⟨q.1, q.2.1, q.2.2.1, gK.blind rfl q.2.2.2.1, q.2.2.2.2⟩
theorem g_pre (C : gC E cc nl own p s m args meth c) (hH : gH E A L f H0 H locs) (av : List Value) : ∀ U : State, U.heap = H → s.WarmedH U.vm → va_Pc av (gPre E L f H.size) av.toArray U := fun U hU hW => ⟨rfl, by rw [hU], by rw [hU]; exact hH.1, gK.warm hW C.2.2.2.2.2.1, hH.2.1.weaken (fun _ _ _ _ => trivial)⟩
theorem g_recv (C : gC E cc nl own p s m args meth c) (hH : gH E A L f H0 H locs) (ha : a ∈ L) {ci : Nat} {fs : List Value} (hf : f a = .inr (ci, fs)) {Cn : String} {T : u_T} {N : Nat} (hc : vwCl[ci]? = some (Cn, T, N)) : ∃ cellB : Cell, H[a]? = some cellB ∧ cellB.vm.isStatics = false ∧ s.vm.findClass Cn = some cellB.cls := by
  obtain ⟨q0, hq⟩ := g_at (f := f) ha
  rw [hf] at hq
  exact va_recv (q := (Cn, T, N)) C.2.2.2.2.2.1.1 hH.1 hc hq
/-- a method's own words -/
def gWV (Cn : String) (y : MethodName) (bytes : ByteArray) (maxL : Nat) (ret : Option FieldType) (n : Nat) : Prop := (Cond.instanceMethod y ∈ gW ∧ Cond.selects Cn y y ∈ gW ∧ Cond.initialized Cn ∈ gW ∧ Cond.code y bytes maxL ret ∈ gW) ∧ (y.cls = Cn ∧ y.cls ≠ "java/lang/invoke/MethodHandle" ∧ y.cls ≠ "java/lang/invoke/VarHandle" ∧ (parseMethodDescriptor y.desc).map (fun d => d.parameters.length) = some n)
def gWS (Cn : String) (y : MethodName) (bytes : ByteArray) (maxL : Nat) (ret : Option FieldType) (n : Nat) : Prop := (Cond.static y ∈ gW ∧ Cond.initialized Cn ∈ gW ∧ Cond.code y bytes maxL ret ∈ gW) ∧ (y.cls = Cn ∧ y.cls ≠ "java/lang/invoke/MethodHandle" ∧ y.cls ≠ "java/lang/invoke/VarHandle" ∧ (parseMethodDescriptor y.desc).map (fun d => d.parameters.length) = some n)
def gWI (Cn : String) (y : MethodName) (bytes : ByteArray) (maxL : Nat) (n : Nat) : Prop := (Cond.instanceMethod y ∈ gW ∧ Cond.initialized Cn ∈ gW ∧ Cond.code y bytes maxL none ∈ gW) ∧ (y.cls = Cn ∧ y.cls ≠ "java/lang/invoke/MethodHandle" ∧ y.cls ≠ "java/lang/invoke/VarHandle" ∧ (parseMethodDescriptor y.desc).map (fun d => d.parameters.length) = some n) ∧ y.name = "<init>"
theorem g_goodC {y : MethodName} {bytes : ByteArray} {maxL : Nat} {ret : Option FieldType} (h : Cond.code y bytes maxL ret ∈ gW) : GoodIn gW (Cond.code y bytes maxL ret :: gW) := fun w hw => (List.mem_cons.mp hw).elim (fun e => by rw [e]; exact ⟨h, gW_good _ h⟩) (fun h2 => ⟨h2, gW_good _ h2⟩)
theorem g_cwV {Cn : String} {y : MethodName} {bytes : ByteArray} {maxL n index : Nat} {ret : Option FieldType} {rm : Room} (hts : ∀ w ∈ gW, w.before args s = true) (wy : gWV Cn y bytes maxL ret n) (hl : Cond.methodLink own index y ∈ gW) (hR : rm.frames + 1 ≤ R.frames ∧ 8 + (maxL + 11) + rm.locals ≤ R.locals) : CallW R s args own Cn index y bytes maxL ret (Cond.code y bytes maxL ret :: gW) rm rm.cells rm.slots n := by
  refine cwV n hts (fun w hw => ?_) rfl rfl rfl wy.2 hR
  unfold wsV at hw
  rcases List.mem_append.mp hw with h | h
  · simp only [List.mem_cons, List.not_mem_nil, or_false] at h
    rcases h with rfl | rfl | rfl | rfl
    · exact ⟨hl, gW_good _ hl⟩
    · exact ⟨wy.1.1, gW_good _ wy.1.1⟩
    · exact ⟨wy.1.2.1, gW_good _ wy.1.2.1⟩
    · exact ⟨wy.1.2.2.1, gW_good _ wy.1.2.2.1⟩
  · exact g_goodC wy.1.2.2.2 w h
theorem g_Vi (C : gC E cc nl own p s m args meth c) (hls : ls.size = nl) (hA : ∀ q, H0.size ≤ q → A q) (hH : gH E A L f H0 H locs) {Cn : String} {y : MethodName} {bytes : ByteArray} {maxL n index ci N : Nat} {ret : FieldType} {rm : Room} {b : Nat} {As st0 fs : List Value} {T : u_T} {post : Int32 → List Nat → gF → Prop} (M : gMi l E y bytes maxL ret rm (.ref b :: As) L f post) (wy : gWV Cn y bytes maxL (some ret) n) (hl : Cond.methodLink own index y ∈ gW) (hb : b ∈ L) (hfb : f b = .inr (ci, fs)) (hc : vwCl[ci]? = some (Cn, T, N)) (hn : As.length = n) (hst : st0 = As.reverse ++ .ref b :: rest) (hw : (rest.map fun v => v.category).sum ≤ 8) (hR : rm.frames + 1 ≤ R.frames ∧ 8 + (maxL + 11) + rm.locals ≤ R.locals) (hcs : cells + rm.cells ≤ R.cells ∧ slots + rm.slots ≤ R.slots) (hdg : decode cc pc = .ok (.invokevirtual index, 3))
    (kk : ∀ (r : Int32) (L1 : List Nat) (f1 : gF) (H1 : Heap) (locs1 : List Loc), post r L1 f1 → gH E A L1 f1 H0 H1 locs1 → W p l e R s m args below meth c H1 locs1 (cells + rm.cells) (slots + rm.slots) Q (F0 m (pc + 3) ls (.int r :: rest))) : W p l e R s m args below meth c H locs cells slots Q (F0 m pc ls st0) := by
  refine g_calli hH hA (va_runV (As := As) (b := b) (rest := rest) ⟨C.1, C.2.1, C.2.2.1, C.2.2.2.1, C.2.2.2.2.1⟩ (M H.size) (g_cwV C.2.2.2.2.1 wy hl hR) ⟨g_blind, g_recv C hH hb hfb hc, g_pre C hH _⟩ rfl hn hls hst (lv_room hw) hdg hcs) kk
theorem g_Vv (C : gC E cc nl own p s m args meth c) (hls : ls.size = nl) (hA : ∀ q, H0.size ≤ q → A q) (hH : gH E A L f H0 H locs) {Cn : String} {y : MethodName} {bytes : ByteArray} {maxL n index ci N : Nat} {rm : Room} {b : Nat} {As st0 fs : List Value} {T : u_T} {post : List Nat → gF → Prop} (M : gMv l E y bytes maxL rm (.ref b :: As) L f post) (wy : gWV Cn y bytes maxL none n) (hl : Cond.methodLink own index y ∈ gW) (hb : b ∈ L) (hfb : f b = .inr (ci, fs)) (hc : vwCl[ci]? = some (Cn, T, N)) (hn : As.length = n) (hst : st0 = As.reverse ++ .ref b :: rest) (hw : (rest.map fun v => v.category).sum ≤ 8) (hR : rm.frames + 1 ≤ R.frames ∧ 8 + (maxL + 11) + rm.locals ≤ R.locals) (hcs : cells + rm.cells ≤ R.cells ∧ slots + rm.slots ≤ R.slots) (hdg : decode cc pc = .ok (.invokevirtual index, 3))
    (kk : ∀ (L1 : List Nat) (f1 : gF) (H1 : Heap) (locs1 : List Loc), post L1 f1 → gH E A L1 f1 H0 H1 locs1 → W p l e R s m args below meth c H1 locs1 (cells + rm.cells) (slots + rm.slots) Q (F0 m (pc + 3) ls rest)) : W p l e R s m args below meth c H locs cells slots Q (F0 m pc ls st0) := by
  refine g_callv hH hA (va_runV (As := As) (b := b) (rest := rest) ⟨C.1, C.2.1, C.2.2.1, C.2.2.2.1, C.2.2.2.2.1⟩ (M H.size) (g_cwV C.2.2.2.2.1 wy hl hR) ⟨g_blind, g_recv C hH hb hfb hc, g_pre C hH _⟩ rfl hn hls hst (lv_room hw) hdg hcs) kk
theorem g_cwS {Cn : String} {y : MethodName} {bytes : ByteArray} {maxL n index : Nat} {ret : Option FieldType} {rm : Room} (hts : ∀ w ∈ gW, w.before args s = true) (wy : gWS Cn y bytes maxL ret n) (hl : Cond.methodLink own index y ∈ gW) (hR : rm.frames + 1 ≤ R.frames ∧ 8 + (maxL + 11) + rm.locals ≤ R.locals) : CallB R s args own index y bytes maxL ret (Cond.code y bytes maxL ret :: gW) rm rm.cells rm.slots n ∧ (Cond.static y).before args s = true := by
  refine va_cwS n hts (fun w hw => ?_) rfl rfl rfl wy.2.2 hR
  unfold va_wsS at hw
  rcases List.mem_append.mp hw with h | h
  · simp only [List.mem_cons, List.not_mem_nil, or_false] at h
    rcases h with rfl | rfl | rfl
    · exact ⟨hl, gW_good _ hl⟩
    · exact ⟨wy.1.1, gW_good _ wy.1.1⟩
    · rw [wy.2.1]; exact ⟨wy.1.2.1, gW_good _ wy.1.2.1⟩
  · exact g_goodC wy.1.2.2 w h
theorem g_Si (C : gC E cc nl own p s m args meth c) (hls : ls.size = nl) (hA : ∀ q, H0.size ≤ q → A q) (hH : gH E A L f H0 H locs) {Cn : String} {y : MethodName} {bytes : ByteArray} {maxL n index : Nat} {ret : FieldType} {rm : Room} {As st0 : List Value} {post : Int32 → List Nat → gF → Prop} (M : gMi l E y bytes maxL ret rm As L f post) (wy : gWS Cn y bytes maxL (some ret) n) (hl : Cond.methodLink own index y ∈ gW) (hn : As.length = n) (hst : st0 = As.reverse ++ rest) (hw : (rest.map fun v => v.category).sum ≤ 8) (hR : rm.frames + 1 ≤ R.frames ∧ 8 + (maxL + 11) + rm.locals ≤ R.locals) (hcs : cells + rm.cells ≤ R.cells ∧ slots + rm.slots ≤ R.slots) (hdg : decode cc pc = .ok (.invokestatic index, 3))
    (kk : ∀ (r : Int32) (L1 : List Nat) (f1 : gF) (H1 : Heap) (locs1 : List Loc), post r L1 f1 → gH E A L1 f1 H0 H1 locs1 → W p l e R s m args below meth c H1 locs1 (cells + rm.cells) (slots + rm.slots) Q (F0 m (pc + 3) ls (.int r :: rest))) : W p l e R s m args below meth c H locs cells slots Q (F0 m pc ls st0) :=
  g_calli hH hA (va_runS (As := As) (rest := rest) ⟨C.1, C.2.1, C.2.2.1, C.2.2.2.1, C.2.2.2.2.1⟩ (M H.size) (g_cwS C.2.2.2.2.1 wy hl hR) ⟨g_blind, g_pre C hH _⟩ rfl hn hls hst (lv_room hw) hdg hcs) kk
theorem g_Sv (C : gC E cc nl own p s m args meth c) (hls : ls.size = nl) (hA : ∀ q, H0.size ≤ q → A q) (hH : gH E A L f H0 H locs) {Cn : String} {y : MethodName} {bytes : ByteArray} {maxL n index : Nat} {rm : Room} {As st0 : List Value} {post : List Nat → gF → Prop} (M : gMv l E y bytes maxL rm As L f post) (wy : gWS Cn y bytes maxL none n) (hl : Cond.methodLink own index y ∈ gW) (hn : As.length = n) (hst : st0 = As.reverse ++ rest) (hw : (rest.map fun v => v.category).sum ≤ 8) (hR : rm.frames + 1 ≤ R.frames ∧ 8 + (maxL + 11) + rm.locals ≤ R.locals) (hcs : cells + rm.cells ≤ R.cells ∧ slots + rm.slots ≤ R.slots) (hdg : decode cc pc = .ok (.invokestatic index, 3))
    (kk : ∀ (L1 : List Nat) (f1 : gF) (H1 : Heap) (locs1 : List Loc), post L1 f1 → gH E A L1 f1 H0 H1 locs1 → W p l e R s m args below meth c H1 locs1 (cells + rm.cells) (slots + rm.slots) Q (F0 m (pc + 3) ls rest)) : W p l e R s m args below meth c H locs cells slots Q (F0 m pc ls st0) :=
  g_callv hH hA (va_runS (As := As) (rest := rest) ⟨C.1, C.2.1, C.2.2.1, C.2.2.2.1, C.2.2.2.2.1⟩ (M H.size) (g_cwS C.2.2.2.2.1 wy hl hR) ⟨g_blind, g_pre C hH _⟩ rfl hn hls hst (lv_room hw) hdg hcs) kk
theorem g_Iv (C : gC E cc nl own p s m args meth c) (hls : ls.size = nl) (hA : ∀ q, H0.size ≤ q → A q) (hH : gH E A L f H0 H locs) {Cn : String} {y : MethodName} {bytes : ByteArray} {maxL n index : Nat} {rm : Room} {b : Nat} {As st0 : List Value} {post : List Nat → gF → Prop} (M : gMv l E y bytes maxL rm (.ref b :: As) L f post) (wy : gWI Cn y bytes maxL n) (hl : Cond.methodLink own index y ∈ gW) (hn : As.length = n) (hst : st0 = As.reverse ++ .ref b :: rest) (hw : (rest.map fun v => v.category).sum ≤ 8) (hR : rm.frames + 1 ≤ R.frames ∧ 8 + (maxL + 11) + rm.locals ≤ R.locals) (hcs : cells + rm.cells ≤ R.cells ∧ slots + rm.slots ≤ R.slots) (hdg : decode cc pc = .ok (.invokespecial index, 3))
    (kk : ∀ (L1 : List Nat) (f1 : gF) (H1 : Heap) (locs1 : List Loc), post L1 f1 → gH E A L1 f1 H0 H1 locs1 → W p l e R s m args below meth c H1 locs1 (cells + rm.cells) (slots + rm.slots) Q (F0 m (pc + 3) ls rest)) : W p l e R s m args below meth c H locs cells slots Q (F0 m pc ls st0) :=
  g_callv hH hA (va_runI (As := As) (b := b) (rest := rest) ⟨C.1, C.2.1, C.2.2.1, C.2.2.2.1, C.2.2.2.2.1⟩ (M H.size) (cwI n C.2.2.2.2.1 (g_goodC wy.1.2.2) rfl rfl rfl (by rw [wy.2.1.1]; exact C.2.2.2.2.1 _ wy.1.2.1) (C.2.2.2.2.1 _ hl) (C.2.2.2.2.1 _ wy.1.1) wy.2.2 wy.2.1.2 hR) ⟨g_blind, g_pre C hH _⟩ rfl hn hls hst (lv_room hw) hdg hcs) kk
theorem g_INv (C : gC E cc nl own p s m args meth c) (hls : ls.size = nl) (hA : ∀ q, H0.size ≤ q → A q) (hH : gH E A L f H0 H locs) {Cn host : String} {y : MethodName} {bytes : ByteArray} {maxL n index : Nat} {rm : Room} {b : Nat} {As st0 : List Value} {post : List Nat → gF → Prop} (M : gMv l E y bytes maxL rm (.ref b :: As) L f post) (wy : gWI Cn y bytes maxL n) (hl : (own, index, y, host) ∈ gNest) (hn : As.length = n) (hst : st0 = As.reverse ++ .ref b :: rest) (hw : (rest.map fun v => v.category).sum ≤ 8) (hR : rm.frames + 1 ≤ R.frames ∧ 8 + (maxL + 11) + rm.locals ≤ R.locals) (hcs : cells + rm.cells ≤ R.cells ∧ slots + rm.slots ≤ R.slots) (hdg : decode cc pc = .ok (.invokespecial index, 3))
    (kk : ∀ (L1 : List Nat) (f1 : gF) (H1 : Heap) (locs1 : List Loc), post L1 f1 → gH E A L1 f1 H0 H1 locs1 → W p l e R s m args below meth c H1 locs1 (cells + rm.cells) (slots + rm.slots) Q (F0 m (pc + 3) ls rest)) : W p l e R s m args below meth c H locs cells slots Q (F0 m pc ls st0) :=
  g_callv hH hA (va_runIN (As := As) (b := b) (rest := rest) ⟨C.1, C.2.1, C.2.2.1, C.2.2.2.1, C.2.2.2.2.1⟩ (M H.size) ⟨va_cnB n C.2.2.2.2.1 (g_goodC wy.1.2.2) rfl rfl rfl (C.2.2.2.2.2.1.2.1 _ hl) (by rw [wy.2.1.1]; exact C.2.2.2.2.1 _ wy.1.2.1) wy.2.1.2 hR, wy.2.2, C.2.2.2.2.1 _ wy.1.1⟩ ⟨g_blind, g_pre C hH _⟩ rfl hn hls hst (lv_room hw) hdg hcs) kk
theorem g_SNi (C : gC E cc nl own p s m args meth c) (hls : ls.size = nl) (hA : ∀ q, H0.size ≤ q → A q) (hH : gH E A L f H0 H locs) {Cn host : String} {y : MethodName} {bytes : ByteArray} {maxL n index : Nat} {ret : FieldType} {rm : Room} {As st0 : List Value} {post : Int32 → List Nat → gF → Prop} (M : gMi l E y bytes maxL ret rm As L f post) (wy : gWS Cn y bytes maxL (some ret) n) (hl : (own, index, y, host) ∈ gNest) (hn : As.length = n) (hst : st0 = As.reverse ++ rest) (hw : (rest.map fun v => v.category).sum ≤ 8) (hR : rm.frames + 1 ≤ R.frames ∧ 8 + (maxL + 11) + rm.locals ≤ R.locals) (hcs : cells + rm.cells ≤ R.cells ∧ slots + rm.slots ≤ R.slots) (hdg : decode cc pc = .ok (.invokestatic index, 3))
    (kk : ∀ (r : Int32) (L1 : List Nat) (f1 : gF) (H1 : Heap) (locs1 : List Loc), post r L1 f1 → gH E A L1 f1 H0 H1 locs1 → W p l e R s m args below meth c H1 locs1 (cells + rm.cells) (slots + rm.slots) Q (F0 m (pc + 3) ls (.int r :: rest))) : W p l e R s m args below meth c H locs cells slots Q (F0 m pc ls st0) :=
  g_calli hH hA (va_runSN (As := As) (rest := rest) ⟨C.1, C.2.1, C.2.2.1, C.2.2.2.1, C.2.2.2.2.1⟩ (M H.size) ⟨va_cnB n C.2.2.2.2.1 (g_goodC wy.1.2.2) rfl rfl rfl (C.2.2.2.2.2.1.2.1 _ hl) (by rw [wy.2.1]; exact C.2.2.2.2.1 _ wy.1.2.1) wy.2.2 hR, C.2.2.2.2.1 _ wy.1.1, trivial⟩ ⟨g_blind, g_pre C hH _⟩ rfl hn hls hst (lv_room hw) hdg hcs) kk
theorem g_iret {mc ms : Nat} {r : Int32} {post : Int32 → List Nat → gF → Prop} (C : gC E cc nl own p s m args meth c) (hr : meth.sig.returnType = some .int) (hH : gH E A L f s.heap H locs) (hc : cells ≤ mc) (hs : slots ≤ ms) (hdg : decode cc pc = .ok (.ireturn, 1)) (hp : post r L f) : W p l e R s m args below meth c H locs cells slots (MQ below (gQi E A post) args s mc ms A) (F0 m pc ls [.int r]) := by
  obtain ⟨hx, hb, hml, hown, hts, hK, hlocks⟩ := C
  refine W.widen (k := mc) (n := ms) hc hs ?_
  exact W.iret hx hb hr (fun t ht hW => ⟨⟨r, (L, f), rfl, hp, by rw [ht]; exact hH.1, hH.2.1⟩, hH.2.2.F ht⟩) hH.2.2.2.2 hdg
theorem g_zret {mc ms : Nat} {r : Int32} {ty : FieldType} {post : Int32 → List Nat → gF → Prop} (C : gC E cc nl own p s m args meth c) (hr : meth.sig.returnType = some ty) (hn : narrow ty (.int r) = .int r) (hH : gH E A L f s.heap H locs) (hc : cells ≤ mc) (hs : slots ≤ ms) (hdg : decode cc pc = .ok (.ireturn, 1)) (hp : post r L f) : W p l e R s m args below meth c H locs cells slots (MQ below (gQi E A post) args s mc ms A) (F0 m pc ls [.int r]) := by
  obtain ⟨hx, hb, hml, hown, hts, hK, hlocks⟩ := C
  refine W.widen (k := mc) (n := ms) hc hs ?_
  exact W.zret hx hb hr hn (fun t ht hW => ⟨⟨r, (L, f), rfl, hp, by rw [ht]; exact hH.1, hH.2.1⟩, hH.2.2.F ht⟩) hH.2.2.2.2 hdg
theorem g_vret {mc ms : Nat} {post : List Nat → gF → Prop} (C : gC E cc nl own p s m args meth c) (hr : meth.sig.returnType = none) (hH : gH E A L f s.heap H locs) (hc : cells ≤ mc) (hs : slots ≤ ms) (hdg : decode cc pc = .ok (.return_, 1)) (hp : post L f) : W p l e R s m args below meth c H locs cells slots (MQ below (gQv E A post) args s mc ms A) (F0 m pc ls []) := by
  obtain ⟨hx, hb, hml, hown, hts, hK, hlocks⟩ := C
  refine W.widen (k := mc) (n := ms) hc hs ?_
  exact W.vret hx hb hr (fun t ht hW => ⟨⟨(L, f), rfl, hp, by rw [ht]; exact hH.1, hH.2.1⟩, hH.2.2.F ht⟩) hH.2.2.2.2 hdg
end GC
theorem gMi.intro {l : Launch} {E : gE} {y : MethodName} {cc : ByteArray} {nl : Nat} {ret : FieldType} {rm : Room} {av : List Value} {L : List Nat} {f : gF} {post : Int32 → List Nat → gF → Prop} (hy : plainName y.cls = true) (hn : (lg_sl av).length ≤ nl)
    (body : ∀ (p : Program) (e : Env) (s : State) (m : MethodId) (below : List Frame) (meth : Method) (c : Code) (A : Nat → Prop) (ls : Array Slot), gC E cc nl y.cls p s m av.toArray meth c → meth.sig.returnType = some ret → (∀ q, s.heap.size ≤ q → A q) → gH E A L f s.heap s.heap [] → lv_has ls nl (lv_args 0 av) → W p l e rm s m av.toArray below meth c s.heap [] 0 0 (MQ below (gQi E A post) av.toArray s rm.cells rm.slots A) (F0 m 0 ls [])) : gMi l E y cc nl ret rm av L f post := by
  intro sz
  refine Met.ofW (cc := cc) (maxL := nl) (ret := some ret) hy rfl ?_
  intro p e s m args below meth c s₁ B hml hv
  obtain ⟨rfl, hsz, hP, hK, hD0⟩ := hv
  have hts := atoms_spec (ws := .code y cc nl (some ret) :: gW) B.pre
  subst hsz
  have hl := lv_entry av hn
  rw [lg_entry_eq]
  exact body p e s m below meth c _ _ ⟨B.exec, B.bytes, hml, findClass_of_methodNamed B.named, fun w h => hts w (List.mem_cons_of_mem _ h), hK, B.notSynchronized⟩ B.returns (fun q h => Or.inr h) ⟨hP, hD0.self, va_S.rf⟩ hl
theorem gMv.intro {l : Launch} {E : gE} {y : MethodName} {cc : ByteArray} {nl : Nat} {rm : Room} {av : List Value} {L : List Nat} {f : gF} {post : List Nat → gF → Prop} (hy : plainName y.cls = true) (hn : (lg_sl av).length ≤ nl)
    (body : ∀ (p : Program) (e : Env) (s : State) (m : MethodId) (below : List Frame) (meth : Method) (c : Code) (A : Nat → Prop) (ls : Array Slot), gC E cc nl y.cls p s m av.toArray meth c → meth.sig.returnType = none → meth.name = y.name → (∀ q, s.heap.size ≤ q → A q) → gH E A L f s.heap s.heap [] → lv_has ls nl (lv_args 0 av) → W p l e rm s m av.toArray below meth c s.heap [] 0 0 (MQ below (gQv E A post) av.toArray s rm.cells rm.slots A) (F0 m 0 ls [])) : gMv l E y cc nl rm av L f post := by
  intro sz
  refine Met.ofW (cc := cc) (maxL := nl) (ret := none) hy rfl ?_
  intro p e s m args below meth c s₁ B hml hv
  obtain ⟨rfl, hsz, hP, hK, hD0⟩ := hv
  have hts := atoms_spec (ws := .code y cc nl none :: gW) B.pre
  subst hsz
  have hl := lv_entry av hn
  rw [lg_entry_eq]
  exact body p e s m below meth c _ _ ⟨B.exec, B.bytes, hml, findClass_of_methodNamed B.named, fun w h => hts w (List.mem_cons_of_mem _ h), hK, B.notSynchronized⟩ B.returns (name_of_methodNamed B.named B.method).1 (fun q h => Or.inr h) ⟨hP, hD0.self, va_S.rf⟩ hl
abbrev gRO (v : Int32) (L : List Nat) (f : gF) : Int32 → List Nat → gF → Prop := fun r L1 f1 => r = v ∧ L = L1 ∧ f = f1
theorem avB (n : Nat) : ∀ z : ClassId, vp_cell z (n, .inl (fun _ => 0)) = arrV z n (fun _ => defaultValue .byte) := fun _ => rfl
theorem avI (n : Nat) : ∀ z : ClassId, vp_cell z (n, .inl (fun _ => 0)) = arrV z n (fun _ => defaultValue .int) := fun _ => rfl
theorem avZ (n : Nat) : ∀ z : ClassId, vp_cell z (n, .inl (fun _ => 0)) = arrV z n (fun _ => defaultValue .boolean) := fun _ => rfl
theorem avJ (n : Nat) : ∀ z : ClassId, vp_cell z (n, .inr (.inl (fun _ => 0))) = arrV z n (fun _ => defaultValue .long) := fun _ => rfl
theorem vp_inL {i : Int32} {n : Nat} (h : (0 : Int) ≤ i.toInt ∧ i.toInt < (n : Int)) : vp_in i n := vp_in_iff.mpr h
def gSlot (z : Int32) : Int32 := if z < 0 then 0 else if 4 ≤ z then 0 else 1
theorem g_neN {f : gF} {a b n m : Nat} {cA cB : ClassId} {x y : (Nat → Int32) ⊕ ((Nat → Int64) ⊕ ((Nat → UInt32) ⊕ ((Nat → UInt64) ⊕ (Nat → Option Nat))))} (h1 : f a = .inl (cA, n, x)) (h2 : f b = .inl (cB, m, y)) (h : n ≠ m) : a ≠ b := g_ne h1 h2 (fun e => h (congrArg (fun q : ClassId × vp_A => q.2.1) (Sum.inl.inj e)))
theorem g_arrUpI {f f2 : gF} {a b n m : Nat} {u v w : Nat → Int32} {cA : ClassId} (e : f2 = va_up f b (.inl (cA, m, .inl w))) (ha : f a = .inl (cA, n, .inl u)) (hb : f b = .inl (cA, m, .inl v)) : ∃ z, f2 a = .inl (cA, n, .inl z) := by
  by_cases h : a = b
  · subst h
    rw [ha] at hb
    have h2 : n = m := congrArg (fun q : ClassId × vp_A => q.2.1) (Sum.inl.inj hb)
    subst h2
    exact ⟨w, (congrFun e a).trans (va_up_self _ _ _)⟩
  · exact ⟨u, ((congrFun e a).trans (va_up_ne _ _ h)).trans ha⟩
def gLen (i : Nat) : Nat := [4, 4, 4, 6, 6, 6, 40, 40, 20, 80].getD i 0
def gArrs (E : gE) (L : List Nat) (f : gF) (na : Nat → Nat) : Prop := ∀ i, i < 10 → na i ∈ L ∧ ∃ v, f (na i) = .inl (E.2.2 1, gLen i, .inl v)
theorem gArrs_upO {E : gE} {L : List Nat} {f f2 : gF} {na : Nat → Nat} {q ci : Nat} {x : List Value} {y : va_E} (e : f2 = va_up f q y) (hq : f q = .inr (ci, x)) (h : gArrs E L f na) : gArrs E L f2 na := fun i hi => by
  obtain ⟨h1, v, h2⟩ := h i hi
  exact ⟨h1, v, ((congrFun e _).trans (va_up_ne _ _ (g_neAO h2 hq))).trans h2⟩
theorem gArrs_upI {E : gE} {L : List Nat} {f f2 : gF} {na : Nat → Nat} {q m : Nat} {u w : Nat → Int32} (e : f2 = va_up f q (.inl (E.2.2 1, m, .inl w))) (hq : f q = .inl (E.2.2 1, m, .inl u)) (h : gArrs E L f na) : gArrs E L f2 na := fun i hi => by
  obtain ⟨h1, v, h2⟩ := h i hi
  obtain ⟨z, hz⟩ := g_arrUpI e h2 hq
  exact ⟨h1, z, hz⟩
theorem g_sw (x : Int32) (lo hi : Int) (h : lo ≤ hi) : (x.toInt < lo ∨ hi < x.toInt) ∨ ∃ j : Nat, (j : Int) ≤ hi - lo ∧ x.toInt = lo + (j : Int) := by
  by_cases h1 : x.toInt < lo
  · exact Or.inl (Or.inl h1)
  · by_cases h2 : hi < x.toInt
    · exact Or.inl (Or.inr h2)
    · exact Or.inr ⟨(x.toInt - lo).toNat, by omega, by omega⟩
theorem g_swE {x v : Int32} {z : Int} (h : x.toInt = z) (hv : v.toInt = z) : x = v := Int32.toInt_inj.mp (h.trans hv.symm)
