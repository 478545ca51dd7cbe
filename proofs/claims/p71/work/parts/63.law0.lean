def lwK (p : Program) (l : Launch) (e : Env) (s : State) (m : MethodId) (below : List Frame) (meth : Method) (c : Code) (b : Nat) (E : gE) (L K : List Nat) (τ σ : Nat → Nat) (x y cells slots : Nat) (i : Int32) : Prop := ∀ (f1 k1 : gF) (H1 : Heap) (locs1 : List Loc) (ls1 : Array Slot), gG E (fun q : Nat => s.heap.size ≤ q) L f1 K k1 s.heap H1 locs1 → iX E L τ f1 x → iY E K σ k1 y → rel E L τ f1 x K σ k1 → lv_has ls1 4 [(3, .int i), (2, .ref y), (1, .ref x), (0, .ref b)] → W p l e room_1 s m #[Value.ref b] below meth c H1 locs1 cells slots (lw_Z below #[Value.ref b] s) (F0 m 2118 ls1 [])
set_option maxHeartbeats 4000000 in
set_option maxRecDepth 100000 in
theorem law_0 {p : Program} {l : Launch} {e : Env} {s : State} {m : MethodId} {below : List Frame} {meth : Method} {c : Code} {b n : Nat} {sc : Nat → Int32} {E : gE} {J : Nat → Nat} {L K : List Nat} {τ σ : Nat → Nat} {f k : gF} {x y : Nat} {H : Heap} {locs : List Loc} {cells slots : Nat} {ls : Array Slot} {i : Int32} (Z : gLw E p s m meth c b n sc) (hO : oW J (fun q : Nat => s.heap.size ≤ q) s s.heap) (hn : n ≤ 3072) (hc : cells ≤ 600000) (hs : slots ≤ 7302249) (h0 : 0 ≤ i.toInt) (h6 : i.toInt + 6 ≤ (n : Int)) (hG : gG E (fun q : Nat => s.heap.size ≤ q) L f K k s.heap H locs) (hX : iX E L τ f x) (hY : iY E K σ k y) (hD : rel E L τ f x K σ k) (hl : lv_has ls 4 [(3, .int i), (2, .ref y), (1, .ref x), (0, .ref b)]) (kk : lwK p l e s m below meth c b E L K τ σ x y cells slots i) : W p l e room_1 s m #[Value.ref b] below meth c H locs cells slots (lw_Z below #[Value.ref b] s) (F0 m 328 ls []) := by
  have C := Z.1
  have hx := C.1
  have hb := C.2.1
  have hbA : ¬ (fun q : Nat => s.heap.size ≤ q) b := Nat.not_le.mpr Z.2.2.2
  obtain ⟨hJ, vw, vm, hw, hw0, hm0⟩ := id hD
  refine lv_aload_n hx hb dL_law_328 rfl (lv_at hl 2 rfl) ?_
  refine lv_aload_n hx hb dL_law_329 rfl (lv_at hl 3 rfl) ?_
  refine lv_iload_n hx hb dL_law_330 rfl (lv_at hl 0 rfl) ?_
  refine lv_iconst (v := (1 : Int32)) hx hb dL_law_331 (by decide) ?_
  refine lv_iadd hx hb dL_law_332 ?_
  refine va_sld hx hb Z.2.2.1 Z.2.2.2 hbA hG.1.2.2 (lw_in h0 h6 hn (by decide)) dL_law_333 ?_
  refine lv_aload_n hx hb dL_law_334 rfl (lv_at hl 3 rfl) ?_
  refine lv_iload_n hx hb dL_law_335 rfl (lv_at hl 0 rfl) ?_
  refine lv_iconst (v := (2 : Int32)) hx hb dL_law_336 (by decide) ?_
  refine lv_iadd hx hb dL_law_337 ?_
  refine va_sld hx hb Z.2.2.1 Z.2.2.2 hbA hG.1.2.2 (lw_in h0 h6 hn (by decide)) dL_law_338 ?_
  refine lv_aload_n hx hb dL_law_339 rfl (lv_at hl 3 rfl) ?_
  refine lv_iload_n hx hb dL_law_340 rfl (lv_at hl 0 rfl) ?_
  refine lv_iconst (v := (3 : Int32)) hx hb dL_law_341 (by decide) ?_
  refine lv_iadd hx hb dL_law_342 ?_
  refine va_sld hx hb Z.2.2.1 Z.2.2.2 hbA hG.1.2.2 (lw_in h0 h6 hn (by decide)) dL_law_343 ?_
  refine lv_aload_n hx hb dL_law_344 rfl (lv_at hl 3 rfl) ?_
  refine lv_iload_n hx hb dL_law_345 rfl (lv_at hl 0 rfl) ?_
  refine lv_iconst (v := (4 : Int32)) hx hb dL_law_346 (by decide) ?_
  refine lv_iadd hx hb dL_law_347 ?_
  refine va_sld hx hb Z.2.2.1 Z.2.2.2 hbA hG.1.2.2 (lw_in h0 h6 hn (by decide)) dL_law_348 ?_
  refine lv_aload_n hx hb dL_law_349 rfl (lv_at hl 3 rfl) ?_
  refine lv_iload_n hx hb dL_law_350 rfl (lv_at hl 0 rfl) ?_
  refine lv_iconst (v := (5 : Int32)) hx hb dL_law_351 (by decide) ?_
  refine lv_iadd hx hb dL_law_352 ?_
  refine va_sld hx hb Z.2.2.1 Z.2.2.2 hbA hG.1.2.2 (lw_in h0 h6 hn (by decide)) dL_law_353 ?_
  refine t_ViG C hO hl.1 (fun _ h => h) hG hX.1 (As := [.int (sc (i + (1 : Int32)).toNatClampNeg), .int (sc (i + (2 : Int32)).toNatClampNeg), .int (sc (i + (3 : Int32)).toNatClampNeg), .int (sc (i + (4 : Int32)).toNatClampNeg), .int (sc (i + (5 : Int32)).toNatClampNeg)]) (rest := []) (t_X9_feed l E J τ L f hX.1 hX.2.1 hX.2.2.1 (sc (i + (1 : Int32)).toNatClampNeg) (sc (i + (2 : Int32)).toNatClampNeg) (sc (i + (3 : Int32)).toNatClampNeg) (sc (i + (4 : Int32)).toNatClampNeg) (sc (i + (5 : Int32)).toNatClampNeg)) my_X9_feed wd1233 hX.2.1 hX.2.2.1 td_0 rfl rfl rfl (Nat.le_of_ble_eq_true rfl) ⟨(Nat.le_of_ble_eq_true rfl), (Nat.le_of_ble_eq_true rfl)⟩ ⟨rfl, rfl⟩ ⟨hc, hs⟩ dL_law_354 (fun r1 L1 f1 H locs hp hG => ?_)
  obtain ⟨rfl, s1, h1⟩ := hp
  have hX0_ := hX
  have hX := hX.S s1
  have hG := hG.swap
  refine lv_pop hx hb dL_law_357 rfl ?_
  refine lv_aload_n hx hb dL_law_358 rfl (lv_at hl 1 rfl) ?_
  refine lv_aload_n hx hb dL_law_359 rfl (lv_at hl 3 rfl) ?_
  refine lv_iload_n hx hb dL_law_360 rfl (lv_at hl 0 rfl) ?_
  refine lv_iconst (v := (1 : Int32)) hx hb dL_law_361 (by decide) ?_
  refine lv_iadd hx hb dL_law_362 ?_
  refine va_sld hx hb Z.2.2.1 Z.2.2.2 hbA hG.1.2.2 (lw_in h0 h6 hn (by decide)) dL_law_363 ?_
  refine lv_aload_n hx hb dL_law_364 rfl (lv_at hl 3 rfl) ?_
  refine lv_iload_n hx hb dL_law_365 rfl (lv_at hl 0 rfl) ?_
  refine lv_iconst (v := (2 : Int32)) hx hb dL_law_366 (by decide) ?_
  refine lv_iadd hx hb dL_law_367 ?_
  refine va_sld hx hb Z.2.2.1 Z.2.2.2 hbA hG.1.2.2 (lw_in h0 h6 hn (by decide)) dL_law_368 ?_
  refine lv_aload_n hx hb dL_law_369 rfl (lv_at hl 3 rfl) ?_
  refine lv_iload_n hx hb dL_law_370 rfl (lv_at hl 0 rfl) ?_
  refine lv_iconst (v := (3 : Int32)) hx hb dL_law_371 (by decide) ?_
  refine lv_iadd hx hb dL_law_372 ?_
  refine va_sld hx hb Z.2.2.1 Z.2.2.2 hbA hG.1.2.2 (lw_in h0 h6 hn (by decide)) dL_law_373 ?_
  refine lv_aload_n hx hb dL_law_374 rfl (lv_at hl 3 rfl) ?_
  refine lv_iload_n hx hb dL_law_375 rfl (lv_at hl 0 rfl) ?_
  refine lv_iconst (v := (4 : Int32)) hx hb dL_law_376 (by decide) ?_
  refine lv_iadd hx hb dL_law_377 ?_
  refine va_sld hx hb Z.2.2.1 Z.2.2.2 hbA hG.1.2.2 (lw_in h0 h6 hn (by decide)) dL_law_378 ?_
  refine lv_aload_n hx hb dL_law_379 rfl (lv_at hl 3 rfl) ?_
  refine lv_iload_n hx hb dL_law_380 rfl (lv_at hl 0 rfl) ?_
  refine lv_iconst (v := (5 : Int32)) hx hb dL_law_381 (by decide) ?_
  refine lv_iadd hx hb dL_law_382 ?_
  refine va_sld hx hb Z.2.2.1 Z.2.2.2 hbA hG.1.2.2 (lw_in h0 h6 hn (by decide)) dL_law_383 ?_
  obtain ⟨vl, vh, hl0, hh, hRR⟩ := id hY.2.2.2.2
  refine t_ViG C hO hl.1 (fun _ h => h) hG hY.1 (As := [.int (sc (i + (1 : Int32)).toNatClampNeg), .int (sc (i + (2 : Int32)).toNatClampNeg), .int (sc (i + (3 : Int32)).toNatClampNeg), .int (sc (i + (4 : Int32)).toNatClampNeg), .int (sc (i + (5 : Int32)).toNatClampNeg)]) (rest := []) (t_X10_feed l E J σ K k hY.1 hY.2.1 hY.2.2.1 (sc (i + (1 : Int32)).toNatClampNeg) (sc (i + (2 : Int32)).toNatClampNeg) (sc (i + (3 : Int32)).toNatClampNeg) (sc (i + (4 : Int32)).toNatClampNeg) (sc (i + (5 : Int32)).toNatClampNeg)) my_X10_feed wd1237 hY.2.1 hY.2.2.1 td_40 rfl rfl rfl (Nat.le_of_ble_eq_true rfl) ⟨(Nat.le_of_ble_eq_true rfl), (Nat.le_of_ble_eq_true rfl)⟩ ⟨rfl, rfl⟩ ⟨hc, hs⟩ dL_law_384 (fun r2 K1 k1 H locs hp hG => ?_)
  obtain ⟨rfl, s2, h2⟩ := hp
  have hY := hY.S s2 rfl rfl
  have hG := hG.swap
  refine lv_pop hx hb dL_law_387 rfl ?_
  refine lv_goto (tgt := 2118) hx hb dL_law_388 (by decide) ?_
  exact kk _ _ _ _ _ hG hX hY (hD.S s1 s2 hX0_ rfl rfl rfl rfl) hl
set_option maxHeartbeats 4000000 in
set_option maxRecDepth 100000 in
theorem law_1 {p : Program} {l : Launch} {e : Env} {s : State} {m : MethodId} {below : List Frame} {meth : Method} {c : Code} {b n : Nat} {sc : Nat → Int32} {E : gE} {J : Nat → Nat} {L K : List Nat} {τ σ : Nat → Nat} {f k : gF} {x y : Nat} {H : Heap} {locs : List Loc} {cells slots : Nat} {ls : Array Slot} {i : Int32} (Z : gLw E p s m meth c b n sc) (hO : oW J (fun q : Nat => s.heap.size ≤ q) s s.heap) (hn : n ≤ 3072) (hc : cells ≤ 600000) (hs : slots ≤ 7302249) (h0 : 0 ≤ i.toInt) (h6 : i.toInt + 6 ≤ (n : Int)) (hG : gG E (fun q : Nat => s.heap.size ≤ q) L f K k s.heap H locs) (hX : iX E L τ f x) (hY : iY E K σ k y) (hD : rel E L τ f x K σ k) (hl : lv_has ls 4 [(3, .int i), (2, .ref y), (1, .ref x), (0, .ref b)]) (kk : lwK p l e s m below meth c b E L K τ σ x y cells slots i) : W p l e room_1 s m #[Value.ref b] below meth c H locs cells slots (lw_Z below #[Value.ref b] s) (F0 m 391 ls []) := by
  have C := Z.1
  have hx := C.1
  have hb := C.2.1
  have hbA : ¬ (fun q : Nat => s.heap.size ≤ q) b := Nat.not_le.mpr Z.2.2.2
  obtain ⟨hJ, vw, vm, hw, hw0, hm0⟩ := id hD
  refine lv_aload_n hx hb dL_law_391 rfl (lv_at hl 2 rfl) ?_
  refine lv_aload_n hx hb dL_law_392 rfl (lv_at hl 3 rfl) ?_
  refine lv_iload_n hx hb dL_law_393 rfl (lv_at hl 0 rfl) ?_
  refine lv_iconst (v := (1 : Int32)) hx hb dL_law_394 (by decide) ?_
  refine lv_iadd hx hb dL_law_395 ?_
  refine va_sld hx hb Z.2.2.1 Z.2.2.2 hbA hG.1.2.2 (lw_in h0 h6 hn (by decide)) dL_law_396 ?_
  refine t_ViG C hO hl.1 (fun _ h => h) hG hX.1 (As := [.int (sc (i + (1 : Int32)).toNatClampNeg)]) (rest := []) (t_X9_end l E J τ L f hX.1 hX.2.1 hX.2.2.1 (sc (i + (1 : Int32)).toNatClampNeg)) my_X9_end wd1241 hX.2.1 hX.2.2.1 td_0 rfl rfl rfl (Nat.le_of_ble_eq_true rfl) ⟨(Nat.le_of_ble_eq_true rfl), (Nat.le_of_ble_eq_true rfl)⟩ ⟨rfl, rfl⟩ ⟨hc, hs⟩ dL_law_397 (fun r1 L1 f1 H locs hp hG => ?_)
  obtain ⟨rfl, s1, h1⟩ := hp
  have hX0_ := hX
  have hX := hX.S s1
  have hG := hG.swap
  refine lv_pop hx hb dL_law_400 rfl ?_
  refine lv_aload_n hx hb dL_law_401 rfl (lv_at hl 1 rfl) ?_
  refine lv_aload_n hx hb dL_law_402 rfl (lv_at hl 3 rfl) ?_
  refine lv_iload_n hx hb dL_law_403 rfl (lv_at hl 0 rfl) ?_
  refine lv_iconst (v := (1 : Int32)) hx hb dL_law_404 (by decide) ?_
  refine lv_iadd hx hb dL_law_405 ?_
  refine va_sld hx hb Z.2.2.1 Z.2.2.2 hbA hG.1.2.2 (lw_in h0 h6 hn (by decide)) dL_law_406 ?_
  obtain ⟨vl, vh, hl0, hh, hRR⟩ := id hY.2.2.2.2
  refine t_ViG C hO hl.1 (fun _ h => h) hG hY.1 (As := [.int (sc (i + (1 : Int32)).toNatClampNeg)]) (rest := []) (t_X10_end l E J σ K k hY.1 hY.2.1 hY.2.2.1 (sc (i + (1 : Int32)).toNatClampNeg)) my_X10_end wd1245 hY.2.1 hY.2.2.1 td_40 rfl rfl rfl (Nat.le_of_ble_eq_true rfl) ⟨(Nat.le_of_ble_eq_true rfl), (Nat.le_of_ble_eq_true rfl)⟩ ⟨rfl, rfl⟩ ⟨hc, hs⟩ dL_law_407 (fun r2 K1 k1 H locs hp hG => ?_)
  obtain ⟨rfl, s2, h2⟩ := hp
  have hY := hY.S s2 rfl rfl
  have hG := hG.swap
  refine lv_pop hx hb dL_law_410 rfl ?_
  refine lv_goto (tgt := 2118) hx hb dL_law_411 (by decide) ?_
  exact kk _ _ _ _ _ hG hX hY (hD.S s1 s2 hX0_ rfl rfl rfl rfl) hl
set_option maxHeartbeats 4000000 in
set_option maxRecDepth 100000 in
theorem law_2 {p : Program} {l : Launch} {e : Env} {s : State} {m : MethodId} {below : List Frame} {meth : Method} {c : Code} {b n : Nat} {sc : Nat → Int32} {E : gE} {J : Nat → Nat} {L K : List Nat} {τ σ : Nat → Nat} {f k : gF} {x y : Nat} {H : Heap} {locs : List Loc} {cells slots : Nat} {ls : Array Slot} {i : Int32} (Z : gLw E p s m meth c b n sc) (hO : oW J (fun q : Nat => s.heap.size ≤ q) s s.heap) (hn : n ≤ 3072) (hc : cells ≤ 600000) (hs : slots ≤ 7302249) (h0 : 0 ≤ i.toInt) (h6 : i.toInt + 6 ≤ (n : Int)) (hG : gG E (fun q : Nat => s.heap.size ≤ q) L f K k s.heap H locs) (hX : iX E L τ f x) (hY : iY E K σ k y) (hD : rel E L τ f x K σ k) (hl : lv_has ls 4 [(3, .int i), (2, .ref y), (1, .ref x), (0, .ref b)]) (kk : lwK p l e s m below meth c b E L K τ σ x y cells slots i) : W p l e room_1 s m #[Value.ref b] below meth c H locs cells slots (lw_Z below #[Value.ref b] s) (F0 m 414 ls []) := by
  have C := Z.1
  have hx := C.1
  have hb := C.2.1
  have hbA : ¬ (fun q : Nat => s.heap.size ≤ q) b := Nat.not_le.mpr Z.2.2.2
  obtain ⟨hJ, vw, vm, hw, hw0, hm0⟩ := id hD
  refine lv_aload_n hx hb dL_law_414 rfl (lv_at hl 2 rfl) ?_
  refine t_ViG C hO hl.1 (fun _ h => h) hG hX.1 (As := []) (rest := []) (t_X9_land l E J τ L f hX.1 hX.2.1 hX.2.2.1) my_X9_land wd1249 hX.2.1 hX.2.2.1 td_0 rfl rfl rfl (Nat.le_of_ble_eq_true rfl) ⟨(Nat.le_of_ble_eq_true rfl), (Nat.le_of_ble_eq_true rfl)⟩ ⟨rfl, rfl⟩ ⟨hc, hs⟩ dL_law_415 (fun r1 L1 f1 H locs hp hG => ?_)
  obtain ⟨rfl, s1, h1⟩ := hp
  have hX0_ := hX
  have hX := hX.S s1
  have hG := hG.swap
  refine lv_pop hx hb dL_law_418 rfl ?_
  refine lv_aload_n hx hb dL_law_419 rfl (lv_at hl 1 rfl) ?_
  obtain ⟨vl, vh, hl0, hh, hRR⟩ := id hY.2.2.2.2
  refine t_ViG C hO hl.1 (fun _ h => h) hG hY.1 (As := []) (rest := []) (t_X10_land l E J σ K k hY.1 hY.2.1 hY.2.2.1 hl0 hh (hY.uq 46) (hY.uq 47) hRR) my_X10_land wd1253 hY.2.1 hY.2.2.1 td_40 rfl rfl rfl (Nat.le_of_ble_eq_true rfl) ⟨(Nat.le_of_ble_eq_true rfl), (Nat.le_of_ble_eq_true rfl)⟩ ⟨rfl, rfl⟩ ⟨hc, hs⟩ dL_law_420 (fun r2 K1 k1 H locs hp hG => ?_)
  obtain ⟨rfl, s2, h2⟩ := hp
  have hY := hY.W s2 h2.2
  have hG := hG.swap
  refine lv_pop hx hb dL_law_423 rfl ?_
  refine lv_goto (tgt := 2118) hx hb dL_law_424 (by decide) ?_
  exact kk _ _ _ _ _ hG hX hY (hD.S s1 s2 hX0_ rfl rfl rfl rfl) hl
set_option maxHeartbeats 4000000 in
set_option maxRecDepth 100000 in
theorem law_3 {p : Program} {l : Launch} {e : Env} {s : State} {m : MethodId} {below : List Frame} {meth : Method} {c : Code} {b n : Nat} {sc : Nat → Int32} {E : gE} {J : Nat → Nat} {L K : List Nat} {τ σ : Nat → Nat} {f k : gF} {x y : Nat} {H : Heap} {locs : List Loc} {cells slots : Nat} {ls : Array Slot} {i : Int32} (Z : gLw E p s m meth c b n sc) (hO : oW J (fun q : Nat => s.heap.size ≤ q) s s.heap) (hn : n ≤ 3072) (hc : cells ≤ 600000) (hs : slots ≤ 7302249) (h0 : 0 ≤ i.toInt) (h6 : i.toInt + 6 ≤ (n : Int)) (hG : gG E (fun q : Nat => s.heap.size ≤ q) L f K k s.heap H locs) (hX : iX E L τ f x) (hY : iY E K σ k y) (hD : rel E L τ f x K σ k) (hl : lv_has ls 4 [(3, .int i), (2, .ref y), (1, .ref x), (0, .ref b)]) (kk : lwK p l e s m below meth c b E L K τ σ x y cells slots i) : W p l e room_1 s m #[Value.ref b] below meth c H locs cells slots (lw_Z below #[Value.ref b] s) (F0 m 427 ls []) := by
  have C := Z.1
  have hx := C.1
  have hb := C.2.1
  have hbA : ¬ (fun q : Nat => s.heap.size ≤ q) b := Nat.not_le.mpr Z.2.2.2
  obtain ⟨hJ, vw, vm, hw, hw0, hm0⟩ := id hD
  refine lv_aload_n hx hb dL_law_427 rfl (lv_at hl 2 rfl) ?_
  refine lv_aload_n hx hb dL_law_428 rfl (lv_at hl 3 rfl) ?_
  refine lv_iload_n hx hb dL_law_429 rfl (lv_at hl 0 rfl) ?_
  refine lv_iconst (v := (1 : Int32)) hx hb dL_law_430 (by decide) ?_
  refine lv_iadd hx hb dL_law_431 ?_
  refine va_sld hx hb Z.2.2.1 Z.2.2.2 hbA hG.1.2.2 (lw_in h0 h6 hn (by decide)) dL_law_432 ?_
  refine t_ViG C hO hl.1 (fun _ h => h) hG hX.1 (As := [.int (sc (i + (1 : Int32)).toNatClampNeg)]) (rest := []) (t_X9_fault l E J τ L f hX.1 hX.2.1 hX.2.2.1 (sc (i + (1 : Int32)).toNatClampNeg)) my_X9_fault wd1257 hX.2.1 hX.2.2.1 td_0 rfl rfl rfl (Nat.le_of_ble_eq_true rfl) ⟨(Nat.le_of_ble_eq_true rfl), (Nat.le_of_ble_eq_true rfl)⟩ ⟨rfl, rfl⟩ ⟨hc, hs⟩ dL_law_433 (fun r1 L1 f1 H locs hp hG => ?_)
  obtain ⟨rfl, s1, h1⟩ := hp
  have hX0_ := hX
  have hX := hX.S s1
  have hG := hG.swap
  refine lv_pop hx hb dL_law_436 rfl ?_
  refine lv_aload_n hx hb dL_law_437 rfl (lv_at hl 1 rfl) ?_
  refine lv_aload_n hx hb dL_law_438 rfl (lv_at hl 3 rfl) ?_
  refine lv_iload_n hx hb dL_law_439 rfl (lv_at hl 0 rfl) ?_
  refine lv_iconst (v := (1 : Int32)) hx hb dL_law_440 (by decide) ?_
  refine lv_iadd hx hb dL_law_441 ?_
  refine va_sld hx hb Z.2.2.1 Z.2.2.2 hbA hG.1.2.2 (lw_in h0 h6 hn (by decide)) dL_law_442 ?_
  obtain ⟨vl, vh, hl0, hh, hRR⟩ := id hY.2.2.2.2
  refine t_ViG C hO hl.1 (fun _ h => h) hG hY.1 (As := [.int (sc (i + (1 : Int32)).toNatClampNeg)]) (rest := []) (t_X10_fault l E J σ K k hY.1 hY.2.1 hY.2.2.1 (sc (i + (1 : Int32)).toNatClampNeg)) my_X10_fault wd1261 hY.2.1 hY.2.2.1 td_40 rfl rfl rfl (Nat.le_of_ble_eq_true rfl) ⟨(Nat.le_of_ble_eq_true rfl), (Nat.le_of_ble_eq_true rfl)⟩ ⟨rfl, rfl⟩ ⟨hc, hs⟩ dL_law_443 (fun r2 K1 k1 H locs hp hG => ?_)
  obtain ⟨rfl, s2, h2⟩ := hp
  have hY := hY.S s2 rfl rfl
  have hG := hG.swap
  refine lv_pop hx hb dL_law_446 rfl ?_
  refine lv_goto (tgt := 2118) hx hb dL_law_447 (by decide) ?_
  exact kk _ _ _ _ _ hG hX hY (hD.S s1 s2 hX0_ rfl rfl rfl rfl) hl
set_option maxHeartbeats 4000000 in
set_option maxRecDepth 100000 in
theorem law_4 {p : Program} {l : Launch} {e : Env} {s : State} {m : MethodId} {below : List Frame} {meth : Method} {c : Code} {b n : Nat} {sc : Nat → Int32} {E : gE} {J : Nat → Nat} {L K : List Nat} {τ σ : Nat → Nat} {f k : gF} {x y : Nat} {H : Heap} {locs : List Loc} {cells slots : Nat} {ls : Array Slot} {i : Int32} (Z : gLw E p s m meth c b n sc) (hO : oW J (fun q : Nat => s.heap.size ≤ q) s s.heap) (hn : n ≤ 3072) (hc : cells ≤ 600000) (hs : slots ≤ 7302249) (h0 : 0 ≤ i.toInt) (h6 : i.toInt + 6 ≤ (n : Int)) (hG : gG E (fun q : Nat => s.heap.size ≤ q) L f K k s.heap H locs) (hX : iX E L τ f x) (hY : iY E K σ k y) (hD : rel E L τ f x K σ k) (hl : lv_has ls 4 [(3, .int i), (2, .ref y), (1, .ref x), (0, .ref b)]) (kk : lwK p l e s m below meth c b E L K τ σ x y cells slots i) : W p l e room_1 s m #[Value.ref b] below meth c H locs cells slots (lw_Z below #[Value.ref b] s) (F0 m 450 ls []) := by
  have C := Z.1
  have hx := C.1
  have hb := C.2.1
  have hbA : ¬ (fun q : Nat => s.heap.size ≤ q) b := Nat.not_le.mpr Z.2.2.2
  obtain ⟨hJ, vw, vm, hw, hw0, hm0⟩ := id hD
  refine lv_aload_n hx hb dL_law_450 rfl (lv_at hl 2 rfl) ?_
  refine lv_aload_n hx hb dL_law_451 rfl (lv_at hl 3 rfl) ?_
  refine lv_iload_n hx hb dL_law_452 rfl (lv_at hl 0 rfl) ?_
  refine lv_iconst (v := (1 : Int32)) hx hb dL_law_453 (by decide) ?_
  refine lv_iadd hx hb dL_law_454 ?_
  refine va_sld hx hb Z.2.2.1 Z.2.2.2 hbA hG.1.2.2 (lw_in h0 h6 hn (by decide)) dL_law_455 ?_
  refine lv_aload_n hx hb dL_law_456 rfl (lv_at hl 3 rfl) ?_
  refine lv_iload_n hx hb dL_law_457 rfl (lv_at hl 0 rfl) ?_
  refine lv_iconst (v := (2 : Int32)) hx hb dL_law_458 (by decide) ?_
  refine lv_iadd hx hb dL_law_459 ?_
  refine va_sld hx hb Z.2.2.1 Z.2.2.2 hbA hG.1.2.2 (lw_in h0 h6 hn (by decide)) dL_law_460 ?_
  refine t_ViG C hO hl.1 (fun _ h => h) hG hX.1 (As := [.int (sc (i + (1 : Int32)).toNatClampNeg), .int (sc (i + (2 : Int32)).toNatClampNeg)]) (rest := []) (t_X9_flight l E J τ L f hX.1 hX.2.1 hX.2.2.1 (sc (i + (1 : Int32)).toNatClampNeg) (sc (i + (2 : Int32)).toNatClampNeg)) my_X9_flight wd1265 hX.2.1 hX.2.2.1 td_0 rfl rfl rfl (Nat.le_of_ble_eq_true rfl) ⟨(Nat.le_of_ble_eq_true rfl), (Nat.le_of_ble_eq_true rfl)⟩ ⟨rfl, rfl⟩ ⟨hc, hs⟩ dL_law_461 (fun r1 L1 f1 H locs hp hG => ?_)
  obtain ⟨rfl, s1, h1⟩ := hp
  have hX0_ := hX
  have hX := hX.S s1
  have hG := hG.swap
  refine lv_pop hx hb dL_law_464 rfl ?_
  refine lv_aload_n hx hb dL_law_465 rfl (lv_at hl 1 rfl) ?_
  refine lv_aload_n hx hb dL_law_466 rfl (lv_at hl 3 rfl) ?_
  refine lv_iload_n hx hb dL_law_467 rfl (lv_at hl 0 rfl) ?_
  refine lv_iconst (v := (1 : Int32)) hx hb dL_law_468 (by decide) ?_
  refine lv_iadd hx hb dL_law_469 ?_
  refine va_sld hx hb Z.2.2.1 Z.2.2.2 hbA hG.1.2.2 (lw_in h0 h6 hn (by decide)) dL_law_470 ?_
  refine lv_aload_n hx hb dL_law_471 rfl (lv_at hl 3 rfl) ?_
  refine lv_iload_n hx hb dL_law_472 rfl (lv_at hl 0 rfl) ?_
  refine lv_iconst (v := (2 : Int32)) hx hb dL_law_473 (by decide) ?_
  refine lv_iadd hx hb dL_law_474 ?_
  refine va_sld hx hb Z.2.2.1 Z.2.2.2 hbA hG.1.2.2 (lw_in h0 h6 hn (by decide)) dL_law_475 ?_
  obtain ⟨vl, vh, hl0, hh, hRR⟩ := id hY.2.2.2.2
  refine t_ViG C hO hl.1 (fun _ h => h) hG hY.1 (As := [.int (sc (i + (1 : Int32)).toNatClampNeg), .int (sc (i + (2 : Int32)).toNatClampNeg)]) (rest := []) (t_X10_flight l E J σ K k hY.1 hY.2.1 hY.2.2.1 (sc (i + (1 : Int32)).toNatClampNeg) (sc (i + (2 : Int32)).toNatClampNeg) hl0 hh (hRR 0 (by decide))) my_X10_flight wd1269 hY.2.1 hY.2.2.1 td_40 rfl rfl rfl (Nat.le_of_ble_eq_true rfl) ⟨(Nat.le_of_ble_eq_true rfl), (Nat.le_of_ble_eq_true rfl)⟩ ⟨rfl, rfl⟩ ⟨hc, hs⟩ dL_law_476 (fun r2 K1 k1 H locs hp hG => ?_)
  obtain ⟨rfl, s2, h2⟩ := hp
  have hY := hY.S s2 rfl rfl
  have hG := hG.swap
  refine lv_pop hx hb dL_law_479 rfl ?_
  refine lv_goto (tgt := 2118) hx hb dL_law_480 (by decide) ?_
  exact kk _ _ _ _ _ hG hX hY (hD.S s1 s2 hX0_ rfl rfl rfl rfl) hl
set_option maxHeartbeats 4000000 in
set_option maxRecDepth 100000 in
theorem law_5 {p : Program} {l : Launch} {e : Env} {s : State} {m : MethodId} {below : List Frame} {meth : Method} {c : Code} {b n : Nat} {sc : Nat → Int32} {E : gE} {J : Nat → Nat} {L K : List Nat} {τ σ : Nat → Nat} {f k : gF} {x y : Nat} {H : Heap} {locs : List Loc} {cells slots : Nat} {ls : Array Slot} {i : Int32} (Z : gLw E p s m meth c b n sc) (hO : oW J (fun q : Nat => s.heap.size ≤ q) s s.heap) (hn : n ≤ 3072) (hc : cells ≤ 600000) (hs : slots ≤ 7302249) (h0 : 0 ≤ i.toInt) (h6 : i.toInt + 6 ≤ (n : Int)) (hG : gG E (fun q : Nat => s.heap.size ≤ q) L f K k s.heap H locs) (hX : iX E L τ f x) (hY : iY E K σ k y) (hD : rel E L τ f x K σ k) (hl : lv_has ls 4 [(3, .int i), (2, .ref y), (1, .ref x), (0, .ref b)]) (kk : lwK p l e s m below meth c b E L K τ σ x y cells slots i) : W p l e room_1 s m #[Value.ref b] below meth c H locs cells slots (lw_Z below #[Value.ref b] s) (F0 m 483 ls []) := by
  have C := Z.1
  have hx := C.1
  have hb := C.2.1
  have hbA : ¬ (fun q : Nat => s.heap.size ≤ q) b := Nat.not_le.mpr Z.2.2.2
  obtain ⟨hJ, vw, vm, hw, hw0, hm0⟩ := id hD
  refine lv_aload_n hx hb dL_law_483 rfl (lv_at hl 2 rfl) ?_
  refine lv_aload_n hx hb dL_law_484 rfl (lv_at hl 3 rfl) ?_
  refine lv_iload_n hx hb dL_law_485 rfl (lv_at hl 0 rfl) ?_
  refine lv_iconst (v := (1 : Int32)) hx hb dL_law_486 (by decide) ?_
  refine lv_iadd hx hb dL_law_487 ?_
  refine va_sld hx hb Z.2.2.1 Z.2.2.2 hbA hG.1.2.2 (lw_in h0 h6 hn (by decide)) dL_law_488 ?_
  refine lv_aload_n hx hb dL_law_489 rfl (lv_at hl 3 rfl) ?_
  refine lv_iload_n hx hb dL_law_490 rfl (lv_at hl 0 rfl) ?_
  refine lv_iconst (v := (2 : Int32)) hx hb dL_law_491 (by decide) ?_
  refine lv_iadd hx hb dL_law_492 ?_
  refine va_sld hx hb Z.2.2.1 Z.2.2.2 hbA hG.1.2.2 (lw_in h0 h6 hn (by decide)) dL_law_493 ?_
  refine t_ViG C hO hl.1 (fun _ h => h) hG hX.1 (As := [.int (sc (i + (1 : Int32)).toNatClampNeg), .int (sc (i + (2 : Int32)).toNatClampNeg)]) (rest := []) (t_X9_member l E J τ L f hX.1 hX.2.1 hX.2.2.1 (sc (i + (1 : Int32)).toNatClampNeg) (sc (i + (2 : Int32)).toNatClampNeg)) my_X9_member wd1273 hX.2.1 hX.2.2.1 td_0 rfl rfl rfl (Nat.le_of_ble_eq_true rfl) ⟨(Nat.le_of_ble_eq_true rfl), (Nat.le_of_ble_eq_true rfl)⟩ ⟨rfl, rfl⟩ ⟨hc, hs⟩ dL_law_494 (fun r1 L1 f1 H locs hp hG => ?_)
  obtain ⟨rfl, s1, h1⟩ := hp
  have hX0_ := hX
  have hX := hX.S s1
  have hG := hG.swap
  refine lv_pop hx hb dL_law_497 rfl ?_
  refine lv_aload_n hx hb dL_law_498 rfl (lv_at hl 1 rfl) ?_
  refine lv_aload_n hx hb dL_law_499 rfl (lv_at hl 3 rfl) ?_
  refine lv_iload_n hx hb dL_law_500 rfl (lv_at hl 0 rfl) ?_
  refine lv_iconst (v := (1 : Int32)) hx hb dL_law_501 (by decide) ?_
  refine lv_iadd hx hb dL_law_502 ?_
  refine va_sld hx hb Z.2.2.1 Z.2.2.2 hbA hG.1.2.2 (lw_in h0 h6 hn (by decide)) dL_law_503 ?_
  refine lv_aload_n hx hb dL_law_504 rfl (lv_at hl 3 rfl) ?_
  refine lv_iload_n hx hb dL_law_505 rfl (lv_at hl 0 rfl) ?_
  refine lv_iconst (v := (2 : Int32)) hx hb dL_law_506 (by decide) ?_
  refine lv_iadd hx hb dL_law_507 ?_
  refine va_sld hx hb Z.2.2.1 Z.2.2.2 hbA hG.1.2.2 (lw_in h0 h6 hn (by decide)) dL_law_508 ?_
  obtain ⟨vl, vh, hl0, hh, hRR⟩ := id hY.2.2.2.2
  refine t_ViG C hO hl.1 (fun _ h => h) hG hY.1 (As := [.int (sc (i + (1 : Int32)).toNatClampNeg), .int (sc (i + (2 : Int32)).toNatClampNeg)]) (rest := []) (t_X10_member l E J σ K k hY.1 hY.2.1 hY.2.2.1 (sc (i + (1 : Int32)).toNatClampNeg) (sc (i + (2 : Int32)).toNatClampNeg) hl0 hh (hRR 0 (by decide))) my_X10_member wd1277 hY.2.1 hY.2.2.1 td_40 rfl rfl rfl (Nat.le_of_ble_eq_true rfl) ⟨(Nat.le_of_ble_eq_true rfl), (Nat.le_of_ble_eq_true rfl)⟩ ⟨rfl, rfl⟩ ⟨hc, hs⟩ dL_law_509 (fun r2 K1 k1 H locs hp hG => ?_)
  obtain ⟨rfl, s2, h2⟩ := hp
  have hY := hY.S s2 rfl rfl
  have hG := hG.swap
  refine lv_pop hx hb dL_law_512 rfl ?_
  refine lv_goto (tgt := 2118) hx hb dL_law_513 (by decide) ?_
  exact kk _ _ _ _ _ hG hX hY (hD.S s1 s2 hX0_ rfl rfl rfl rfl) hl
set_option maxHeartbeats 4000000 in
set_option maxRecDepth 100000 in
theorem law_6 {p : Program} {l : Launch} {e : Env} {s : State} {m : MethodId} {below : List Frame} {meth : Method} {c : Code} {b n : Nat} {sc : Nat → Int32} {E : gE} {J : Nat → Nat} {L K : List Nat} {τ σ : Nat → Nat} {f k : gF} {x y : Nat} {H : Heap} {locs : List Loc} {cells slots : Nat} {ls : Array Slot} {i : Int32} (Z : gLw E p s m meth c b n sc) (hO : oW J (fun q : Nat => s.heap.size ≤ q) s s.heap) (hn : n ≤ 3072) (hc : cells ≤ 600000) (hs : slots ≤ 7302249) (h0 : 0 ≤ i.toInt) (h6 : i.toInt + 6 ≤ (n : Int)) (hG : gG E (fun q : Nat => s.heap.size ≤ q) L f K k s.heap H locs) (hX : iX E L τ f x) (hY : iY E K σ k y) (hD : rel E L τ f x K σ k) (hl : lv_has ls 4 [(3, .int i), (2, .ref y), (1, .ref x), (0, .ref b)]) (kk : lwK p l e s m below meth c b E L K τ σ x y cells slots i) : W p l e room_1 s m #[Value.ref b] below meth c H locs cells slots (lw_Z below #[Value.ref b] s) (F0 m 516 ls []) := by
  have C := Z.1
  have hx := C.1
  have hb := C.2.1
  have hbA : ¬ (fun q : Nat => s.heap.size ≤ q) b := Nat.not_le.mpr Z.2.2.2
  obtain ⟨hJ, vw, vm, hw, hw0, hm0⟩ := id hD
  refine lv_aload_n hx hb dL_law_516 rfl (lv_at hl 2 rfl) ?_
  refine t_ViG C hO hl.1 (fun _ h => h) hG hX.1 (As := []) (rest := []) (t_X9_lamps l E J τ L f hX.1 hX.2.1 hX.2.2.1) my_X9_lamps wd1281 hX.2.1 hX.2.2.1 td_0 rfl rfl rfl (Nat.le_of_ble_eq_true rfl) ⟨(Nat.le_of_ble_eq_true rfl), (Nat.le_of_ble_eq_true rfl)⟩ ⟨rfl, rfl⟩ ⟨hc, hs⟩ dL_law_517 (fun r1 L1 f1 H locs hp hG => ?_)
  obtain ⟨rfl, s1, h1⟩ := hp
  have hX0_ := hX
  have hX := hX.S s1
  have hG := hG.swap
  refine lv_pop hx hb dL_law_520 rfl ?_
  refine lv_aload_n hx hb dL_law_521 rfl (lv_at hl 1 rfl) ?_
  obtain ⟨vl, vh, hl0, hh, hRR⟩ := id hY.2.2.2.2
  refine t_ViG C hO hl.1 (fun _ h => h) hG hY.1 (As := []) (rest := []) (t_X10_lamps l E J σ K k hY.1 hY.2.1 hY.2.2.1 hl0 hh (hRR 0 (by decide))) my_X10_lamps wd1285 hY.2.1 hY.2.2.1 td_40 rfl rfl rfl (Nat.le_of_ble_eq_true rfl) ⟨(Nat.le_of_ble_eq_true rfl), (Nat.le_of_ble_eq_true rfl)⟩ ⟨rfl, rfl⟩ ⟨hc, hs⟩ dL_law_522 (fun r2 K1 k1 H locs hp hG => ?_)
  obtain ⟨rfl, s2, h2⟩ := hp
  have hY := hY.S s2 rfl rfl
  have hG := hG.swap
  refine lv_pop hx hb dL_law_525 rfl ?_
  refine lv_goto (tgt := 2118) hx hb dL_law_526 (by decide) ?_
  exact kk _ _ _ _ _ hG hX hY (hD.S s1 s2 hX0_ rfl rfl rfl rfl) hl
set_option maxHeartbeats 4000000 in
set_option maxRecDepth 100000 in
theorem law_7 {p : Program} {l : Launch} {e : Env} {s : State} {m : MethodId} {below : List Frame} {meth : Method} {c : Code} {b n : Nat} {sc : Nat → Int32} {E : gE} {J : Nat → Nat} {L K : List Nat} {τ σ : Nat → Nat} {f k : gF} {x y : Nat} {H : Heap} {locs : List Loc} {cells slots : Nat} {ls : Array Slot} {i : Int32} (Z : gLw E p s m meth c b n sc) (hO : oW J (fun q : Nat => s.heap.size ≤ q) s s.heap) (hn : n ≤ 3072) (hc : cells ≤ 600000) (hs : slots ≤ 7302249) (h0 : 0 ≤ i.toInt) (h6 : i.toInt + 6 ≤ (n : Int)) (hG : gG E (fun q : Nat => s.heap.size ≤ q) L f K k s.heap H locs) (hX : iX E L τ f x) (hY : iY E K σ k y) (hD : rel E L τ f x K σ k) (hl : lv_has ls 4 [(3, .int i), (2, .ref y), (1, .ref x), (0, .ref b)]) (kk : lwK p l e s m below meth c b E L K τ σ x y cells slots i) : W p l e room_1 s m #[Value.ref b] below meth c H locs cells slots (lw_Z below #[Value.ref b] s) (F0 m 529 ls []) := by
  have C := Z.1
  have hx := C.1
  have hb := C.2.1
  have hbA : ¬ (fun q : Nat => s.heap.size ≤ q) b := Nat.not_le.mpr Z.2.2.2
  obtain ⟨hJ, vw, vm, hw, hw0, hm0⟩ := id hD
  refine lv_aload_n hx hb dL_law_529 rfl (lv_at hl 2 rfl) ?_
  refine lv_aload_n hx hb dL_law_530 rfl (lv_at hl 3 rfl) ?_
  refine lv_iload_n hx hb dL_law_531 rfl (lv_at hl 0 rfl) ?_
  refine lv_iconst (v := (1 : Int32)) hx hb dL_law_532 (by decide) ?_
  refine lv_iadd hx hb dL_law_533 ?_
  refine va_sld hx hb Z.2.2.1 Z.2.2.2 hbA hG.1.2.2 (lw_in h0 h6 hn (by decide)) dL_law_534 ?_
  refine lv_aload_n hx hb dL_law_535 rfl (lv_at hl 3 rfl) ?_
  refine lv_iload_n hx hb dL_law_536 rfl (lv_at hl 0 rfl) ?_
  refine lv_iconst (v := (2 : Int32)) hx hb dL_law_537 (by decide) ?_
  refine lv_iadd hx hb dL_law_538 ?_
  refine va_sld hx hb Z.2.2.1 Z.2.2.2 hbA hG.1.2.2 (lw_in h0 h6 hn (by decide)) dL_law_539 ?_
  refine t_ViG C hO hl.1 (fun _ h => h) hG hX.1 (As := [.int (sc (i + (1 : Int32)).toNatClampNeg), .int (sc (i + (2 : Int32)).toNatClampNeg)]) (rest := []) (t_X9_at l E J τ L f hX.1 hX.2.1 hX.2.2.1 (sc (i + (1 : Int32)).toNatClampNeg) (sc (i + (2 : Int32)).toNatClampNeg)) my_X9_at wd1289 hX.2.1 hX.2.2.1 td_0 rfl rfl rfl (Nat.le_of_ble_eq_true rfl) ⟨(Nat.le_of_ble_eq_true rfl), (Nat.le_of_ble_eq_true rfl)⟩ ⟨rfl, rfl⟩ ⟨hc, hs⟩ dL_law_540 (fun r1 L1 f1 H locs hp hG => ?_)
  obtain ⟨rfl, s1, h1⟩ := hp
  have hX0_ := hX
  have hX := hX.S s1
  have hG := hG.swap
  refine lv_pop hx hb dL_law_543 rfl ?_
  refine lv_aload_n hx hb dL_law_544 rfl (lv_at hl 1 rfl) ?_
  refine lv_aload_n hx hb dL_law_545 rfl (lv_at hl 3 rfl) ?_
  refine lv_iload_n hx hb dL_law_546 rfl (lv_at hl 0 rfl) ?_
  refine lv_iconst (v := (1 : Int32)) hx hb dL_law_547 (by decide) ?_
  refine lv_iadd hx hb dL_law_548 ?_
  refine va_sld hx hb Z.2.2.1 Z.2.2.2 hbA hG.1.2.2 (lw_in h0 h6 hn (by decide)) dL_law_549 ?_
  refine lv_aload_n hx hb dL_law_550 rfl (lv_at hl 3 rfl) ?_
  refine lv_iload_n hx hb dL_law_551 rfl (lv_at hl 0 rfl) ?_
  refine lv_iconst (v := (2 : Int32)) hx hb dL_law_552 (by decide) ?_
  refine lv_iadd hx hb dL_law_553 ?_
  refine va_sld hx hb Z.2.2.1 Z.2.2.2 hbA hG.1.2.2 (lw_in h0 h6 hn (by decide)) dL_law_554 ?_
  obtain ⟨vl, vh, hl0, hh, hRR⟩ := id hY.2.2.2.2
  refine t_ViG C hO hl.1 (fun _ h => h) hG hY.1 (As := [.int (sc (i + (1 : Int32)).toNatClampNeg), .int (sc (i + (2 : Int32)).toNatClampNeg)]) (rest := []) (t_X10_at l E J σ K k hY.1 hY.2.1 hY.2.2.1 (sc (i + (1 : Int32)).toNatClampNeg) (sc (i + (2 : Int32)).toNatClampNeg) hl0 hh (hRR 0 (by decide))) my_X10_at wd1293 hY.2.1 hY.2.2.1 td_40 rfl rfl rfl (Nat.le_of_ble_eq_true rfl) ⟨(Nat.le_of_ble_eq_true rfl), (Nat.le_of_ble_eq_true rfl)⟩ ⟨rfl, rfl⟩ ⟨hc, hs⟩ dL_law_555 (fun r2 K1 k1 H locs hp hG => ?_)
  obtain ⟨rfl, s2, h2⟩ := hp
  have hY := hY.S s2 rfl rfl
  have hG := hG.swap
  refine lv_pop hx hb dL_law_558 rfl ?_
  refine lv_goto (tgt := 2118) hx hb dL_law_559 (by decide) ?_
  exact kk _ _ _ _ _ hG hX hY (hD.S s1 s2 hX0_ rfl rfl rfl rfl) hl
set_option maxHeartbeats 4000000 in
set_option maxRecDepth 100000 in
theorem law_8 {p : Program} {l : Launch} {e : Env} {s : State} {m : MethodId} {below : List Frame} {meth : Method} {c : Code} {b n : Nat} {sc : Nat → Int32} {E : gE} {J : Nat → Nat} {L K : List Nat} {τ σ : Nat → Nat} {f k : gF} {x y : Nat} {H : Heap} {locs : List Loc} {cells slots : Nat} {ls : Array Slot} {i : Int32} (Z : gLw E p s m meth c b n sc) (hO : oW J (fun q : Nat => s.heap.size ≤ q) s s.heap) (hn : n ≤ 3072) (hc : cells ≤ 600000) (hs : slots ≤ 7302249) (h0 : 0 ≤ i.toInt) (h6 : i.toInt + 6 ≤ (n : Int)) (hG : gG E (fun q : Nat => s.heap.size ≤ q) L f K k s.heap H locs) (hX : iX E L τ f x) (hY : iY E K σ k y) (hD : rel E L τ f x K σ k) (hl : lv_has ls 4 [(3, .int i), (2, .ref y), (1, .ref x), (0, .ref b)]) (kk : lwK p l e s m below meth c b E L K τ σ x y cells slots i) : W p l e room_1 s m #[Value.ref b] below meth c H locs cells slots (lw_Z below #[Value.ref b] s) (F0 m 562 ls []) := by
  have C := Z.1
  have hx := C.1
  have hb := C.2.1
  have hbA : ¬ (fun q : Nat => s.heap.size ≤ q) b := Nat.not_le.mpr Z.2.2.2
  obtain ⟨hJ, vw, vm, hw, hw0, hm0⟩ := id hD
  refine lv_aload_n hx hb dL_law_562 rfl (lv_at hl 2 rfl) ?_
  refine lv_aload_n hx hb dL_law_563 rfl (lv_at hl 3 rfl) ?_
  refine lv_iload_n hx hb dL_law_564 rfl (lv_at hl 0 rfl) ?_
  refine lv_iconst (v := (1 : Int32)) hx hb dL_law_565 (by decide) ?_
  refine lv_iadd hx hb dL_law_566 ?_
  refine va_sld hx hb Z.2.2.1 Z.2.2.2 hbA hG.1.2.2 (lw_in h0 h6 hn (by decide)) dL_law_567 ?_
  refine lv_aload_n hx hb dL_law_568 rfl (lv_at hl 3 rfl) ?_
  refine lv_iload_n hx hb dL_law_569 rfl (lv_at hl 0 rfl) ?_
  refine lv_iconst (v := (2 : Int32)) hx hb dL_law_570 (by decide) ?_
  refine lv_iadd hx hb dL_law_571 ?_
  refine va_sld hx hb Z.2.2.1 Z.2.2.2 hbA hG.1.2.2 (lw_in h0 h6 hn (by decide)) dL_law_572 ?_
  refine t_ViG C hO hl.1 (fun _ h => h) hG hX.1 (As := [.int (sc (i + (1 : Int32)).toNatClampNeg), .int (sc (i + (2 : Int32)).toNatClampNeg)]) (rest := []) (t_X9_heads l E J τ L f hX.1 hX.2.1 hX.2.2.1 (sc (i + (1 : Int32)).toNatClampNeg) (sc (i + (2 : Int32)).toNatClampNeg)) my_X9_heads wd1297 hX.2.1 hX.2.2.1 td_0 rfl rfl rfl (Nat.le_of_ble_eq_true rfl) ⟨(Nat.le_of_ble_eq_true rfl), (Nat.le_of_ble_eq_true rfl)⟩ ⟨rfl, rfl⟩ ⟨hc, hs⟩ dL_law_573 (fun r1 L1 f1 H locs hp hG => ?_)
  obtain ⟨rfl, s1, h1⟩ := hp
  have hX0_ := hX
  have hX := hX.S s1
  have hG := hG.swap
  refine lv_pop hx hb dL_law_576 rfl ?_
  refine lv_aload_n hx hb dL_law_577 rfl (lv_at hl 1 rfl) ?_
  refine lv_aload_n hx hb dL_law_578 rfl (lv_at hl 3 rfl) ?_
  refine lv_iload_n hx hb dL_law_579 rfl (lv_at hl 0 rfl) ?_
  refine lv_iconst (v := (1 : Int32)) hx hb dL_law_580 (by decide) ?_
  refine lv_iadd hx hb dL_law_581 ?_
  refine va_sld hx hb Z.2.2.1 Z.2.2.2 hbA hG.1.2.2 (lw_in h0 h6 hn (by decide)) dL_law_582 ?_
  refine lv_aload_n hx hb dL_law_583 rfl (lv_at hl 3 rfl) ?_
  refine lv_iload_n hx hb dL_law_584 rfl (lv_at hl 0 rfl) ?_
  refine lv_iconst (v := (2 : Int32)) hx hb dL_law_585 (by decide) ?_
  refine lv_iadd hx hb dL_law_586 ?_
  refine va_sld hx hb Z.2.2.1 Z.2.2.2 hbA hG.1.2.2 (lw_in h0 h6 hn (by decide)) dL_law_587 ?_
  obtain ⟨vl, vh, hl0, hh, hRR⟩ := id hY.2.2.2.2
  refine t_ViG C hO hl.1 (fun _ h => h) hG hY.1 (As := [.int (sc (i + (1 : Int32)).toNatClampNeg), .int (sc (i + (2 : Int32)).toNatClampNeg)]) (rest := []) (t_X10_heads l E J σ K k hY.1 hY.2.1 hY.2.2.1 (sc (i + (1 : Int32)).toNatClampNeg) (sc (i + (2 : Int32)).toNatClampNeg) hl0 hh (hRR 0 (by decide))) my_X10_heads wd1301 hY.2.1 hY.2.2.1 td_40 rfl rfl rfl (Nat.le_of_ble_eq_true rfl) ⟨(Nat.le_of_ble_eq_true rfl), (Nat.le_of_ble_eq_true rfl)⟩ ⟨rfl, rfl⟩ ⟨hc, hs⟩ dL_law_588 (fun r2 K1 k1 H locs hp hG => ?_)
  obtain ⟨rfl, s2, h2⟩ := hp
  have hY := hY.S s2 rfl rfl
  have hG := hG.swap
  refine lv_pop hx hb dL_law_591 rfl ?_
  refine lv_goto (tgt := 2118) hx hb dL_law_592 (by decide) ?_
  exact kk _ _ _ _ _ hG hX hY (hD.S s1 s2 hX0_ rfl rfl rfl rfl) hl
set_option maxHeartbeats 4000000 in
set_option maxRecDepth 100000 in
theorem law_9 {p : Program} {l : Launch} {e : Env} {s : State} {m : MethodId} {below : List Frame} {meth : Method} {c : Code} {b n : Nat} {sc : Nat → Int32} {E : gE} {J : Nat → Nat} {L K : List Nat} {τ σ : Nat → Nat} {f k : gF} {x y : Nat} {H : Heap} {locs : List Loc} {cells slots : Nat} {ls : Array Slot} {i : Int32} (Z : gLw E p s m meth c b n sc) (hO : oW J (fun q : Nat => s.heap.size ≤ q) s s.heap) (hn : n ≤ 3072) (hc : cells ≤ 600000) (hs : slots ≤ 7302249) (h0 : 0 ≤ i.toInt) (h6 : i.toInt + 6 ≤ (n : Int)) (hG : gG E (fun q : Nat => s.heap.size ≤ q) L f K k s.heap H locs) (hX : iX E L τ f x) (hY : iY E K σ k y) (hD : rel E L τ f x K σ k) (hl : lv_has ls 4 [(3, .int i), (2, .ref y), (1, .ref x), (0, .ref b)]) (kk : lwK p l e s m below meth c b E L K τ σ x y cells slots i) : W p l e room_1 s m #[Value.ref b] below meth c H locs cells slots (lw_Z below #[Value.ref b] s) (F0 m 595 ls []) := by
  have C := Z.1
  have hx := C.1
  have hb := C.2.1
  have hbA : ¬ (fun q : Nat => s.heap.size ≤ q) b := Nat.not_le.mpr Z.2.2.2
  obtain ⟨hJ, vw, vm, hw, hw0, hm0⟩ := id hD
  refine lv_aload_n hx hb dL_law_595 rfl (lv_at hl 2 rfl) ?_
  refine lv_aload_n hx hb dL_law_596 rfl (lv_at hl 3 rfl) ?_
  refine lv_iload_n hx hb dL_law_597 rfl (lv_at hl 0 rfl) ?_
  refine lv_iconst (v := (1 : Int32)) hx hb dL_law_598 (by decide) ?_
  refine lv_iadd hx hb dL_law_599 ?_
  refine va_sld hx hb Z.2.2.1 Z.2.2.2 hbA hG.1.2.2 (lw_in h0 h6 hn (by decide)) dL_law_600 ?_
  refine t_ViG C hO hl.1 (fun _ h => h) hG hX.1 (As := [.int (sc (i + (1 : Int32)).toNatClampNeg)]) (rest := []) (t_X9_out l E J τ L f hX.1 hX.2.1 hX.2.2.1 (sc (i + (1 : Int32)).toNatClampNeg)) my_X9_out wd1305 hX.2.1 hX.2.2.1 td_0 rfl rfl rfl (Nat.le_of_ble_eq_true rfl) ⟨(Nat.le_of_ble_eq_true rfl), (Nat.le_of_ble_eq_true rfl)⟩ ⟨rfl, rfl⟩ ⟨hc, hs⟩ dL_law_601 (fun r1 L1 f1 H locs hp hG => ?_)
  obtain ⟨rfl, s1, h1⟩ := hp
  have hX0_ := hX
  have hX := hX.S s1
  have hG := hG.swap
  refine lv_pop hx hb dL_law_604 rfl ?_
  refine lv_aload_n hx hb dL_law_605 rfl (lv_at hl 1 rfl) ?_
  refine lv_aload_n hx hb dL_law_606 rfl (lv_at hl 3 rfl) ?_
  refine lv_iload_n hx hb dL_law_607 rfl (lv_at hl 0 rfl) ?_
  refine lv_iconst (v := (1 : Int32)) hx hb dL_law_608 (by decide) ?_
  refine lv_iadd hx hb dL_law_609 ?_
  refine va_sld hx hb Z.2.2.1 Z.2.2.2 hbA hG.1.2.2 (lw_in h0 h6 hn (by decide)) dL_law_610 ?_
  obtain ⟨vl, vh, hl0, hh, hRR⟩ := id hY.2.2.2.2
  refine t_ViG C hO hl.1 (fun _ h => h) hG hY.1 (As := [.int (sc (i + (1 : Int32)).toNatClampNeg)]) (rest := []) (t_X10_out l E J σ K k hY.1 hY.2.1 hY.2.2.1 (sc (i + (1 : Int32)).toNatClampNeg) hl0 hh (hRR 0 (by decide))) my_X10_out wd1309 hY.2.1 hY.2.2.1 td_40 rfl rfl rfl (Nat.le_of_ble_eq_true rfl) ⟨(Nat.le_of_ble_eq_true rfl), (Nat.le_of_ble_eq_true rfl)⟩ ⟨rfl, rfl⟩ ⟨hc, hs⟩ dL_law_611 (fun r2 K1 k1 H locs hp hG => ?_)
  obtain ⟨rfl, s2, h2⟩ := hp
  have hY := hY.S s2 rfl rfl
  have hG := hG.swap
  refine lv_pop hx hb dL_law_614 rfl ?_
  refine lv_goto (tgt := 2118) hx hb dL_law_615 (by decide) ?_
  exact kk _ _ _ _ _ hG hX hY (hD.S s1 s2 hX0_ rfl rfl rfl rfl) hl
set_option maxHeartbeats 4000000 in
set_option maxRecDepth 100000 in
theorem law_10 {p : Program} {l : Launch} {e : Env} {s : State} {m : MethodId} {below : List Frame} {meth : Method} {c : Code} {b n : Nat} {sc : Nat → Int32} {E : gE} {J : Nat → Nat} {L K : List Nat} {τ σ : Nat → Nat} {f k : gF} {x y : Nat} {H : Heap} {locs : List Loc} {cells slots : Nat} {ls : Array Slot} {i : Int32} (Z : gLw E p s m meth c b n sc) (hO : oW J (fun q : Nat => s.heap.size ≤ q) s s.heap) (hn : n ≤ 3072) (hc : cells ≤ 600000) (hs : slots ≤ 7302249) (h0 : 0 ≤ i.toInt) (h6 : i.toInt + 6 ≤ (n : Int)) (hG : gG E (fun q : Nat => s.heap.size ≤ q) L f K k s.heap H locs) (hX : iX E L τ f x) (hY : iY E K σ k y) (hD : rel E L τ f x K σ k) (hl : lv_has ls 4 [(3, .int i), (2, .ref y), (1, .ref x), (0, .ref b)]) (kk : lwK p l e s m below meth c b E L K τ σ x y cells slots i) : W p l e room_1 s m #[Value.ref b] below meth c H locs cells slots (lw_Z below #[Value.ref b] s) (F0 m 618 ls []) := by
  have C := Z.1
  have hx := C.1
  have hb := C.2.1
  have hbA : ¬ (fun q : Nat => s.heap.size ≤ q) b := Nat.not_le.mpr Z.2.2.2
  obtain ⟨hJ, vw, vm, hw, hw0, hm0⟩ := id hD
  refine lv_aload_n hx hb dL_law_618 rfl (lv_at hl 2 rfl) ?_
  refine lv_aload_n hx hb dL_law_619 rfl (lv_at hl 3 rfl) ?_
  refine lv_iload_n hx hb dL_law_620 rfl (lv_at hl 0 rfl) ?_
  refine lv_iconst (v := (1 : Int32)) hx hb dL_law_621 (by decide) ?_
  refine lv_iadd hx hb dL_law_622 ?_
  refine va_sld hx hb Z.2.2.1 Z.2.2.2 hbA hG.1.2.2 (lw_in h0 h6 hn (by decide)) dL_law_623 ?_
  refine t_ViG C hO hl.1 (fun _ h => h) hG hX.1 (As := [.int (sc (i + (1 : Int32)).toNatClampNeg)]) (rest := []) (t_X9_bends l E J τ L f hX.1 hX.2.1 hX.2.2.1 (sc (i + (1 : Int32)).toNatClampNeg)) my_X9_bends wd1313 hX.2.1 hX.2.2.1 td_0 rfl rfl rfl (Nat.le_of_ble_eq_true rfl) ⟨(Nat.le_of_ble_eq_true rfl), (Nat.le_of_ble_eq_true rfl)⟩ ⟨rfl, rfl⟩ ⟨hc, hs⟩ dL_law_624 (fun r1 L1 f1 H locs hp hG => ?_)
  obtain ⟨rfl, s1, h1⟩ := hp
  have hX0_ := hX
  have hX := hX.S s1
  have hG := hG.swap
  refine lv_pop hx hb dL_law_627 rfl ?_
  refine lv_aload_n hx hb dL_law_628 rfl (lv_at hl 1 rfl) ?_
  refine lv_aload_n hx hb dL_law_629 rfl (lv_at hl 3 rfl) ?_
  refine lv_iload_n hx hb dL_law_630 rfl (lv_at hl 0 rfl) ?_
  refine lv_iconst (v := (1 : Int32)) hx hb dL_law_631 (by decide) ?_
  refine lv_iadd hx hb dL_law_632 ?_
  refine va_sld hx hb Z.2.2.1 Z.2.2.2 hbA hG.1.2.2 (lw_in h0 h6 hn (by decide)) dL_law_633 ?_
  obtain ⟨vl, vh, hl0, hh, hRR⟩ := id hY.2.2.2.2
  refine t_ViG C hO hl.1 (fun _ h => h) hG hY.1 (As := [.int (sc (i + (1 : Int32)).toNatClampNeg)]) (rest := []) (t_X10_bends l E J σ K k hY.1 hY.2.1 hY.2.2.1 (sc (i + (1 : Int32)).toNatClampNeg) hl0 hh (hRR 0 (by decide))) my_X10_bends wd1317 hY.2.1 hY.2.2.1 td_40 rfl rfl rfl (Nat.le_of_ble_eq_true rfl) ⟨(Nat.le_of_ble_eq_true rfl), (Nat.le_of_ble_eq_true rfl)⟩ ⟨rfl, rfl⟩ ⟨hc, hs⟩ dL_law_634 (fun r2 K1 k1 H locs hp hG => ?_)
  obtain ⟨rfl, s2, h2⟩ := hp
  have hY := hY.S s2 rfl rfl
  have hG := hG.swap
  refine lv_pop hx hb dL_law_637 rfl ?_
  refine lv_goto (tgt := 2118) hx hb dL_law_638 (by decide) ?_
  exact kk _ _ _ _ _ hG hX hY (hD.S s1 s2 hX0_ rfl rfl rfl rfl) hl
set_option maxHeartbeats 4000000 in
set_option maxRecDepth 100000 in
theorem law_11 {p : Program} {l : Launch} {e : Env} {s : State} {m : MethodId} {below : List Frame} {meth : Method} {c : Code} {b n : Nat} {sc : Nat → Int32} {E : gE} {J : Nat → Nat} {L K : List Nat} {τ σ : Nat → Nat} {f k : gF} {x y : Nat} {H : Heap} {locs : List Loc} {cells slots : Nat} {ls : Array Slot} {i : Int32} (Z : gLw E p s m meth c b n sc) (hO : oW J (fun q : Nat => s.heap.size ≤ q) s s.heap) (hn : n ≤ 3072) (hc : cells ≤ 600000) (hs : slots ≤ 7302249) (h0 : 0 ≤ i.toInt) (h6 : i.toInt + 6 ≤ (n : Int)) (hG : gG E (fun q : Nat => s.heap.size ≤ q) L f K k s.heap H locs) (hX : iX E L τ f x) (hY : iY E K σ k y) (hD : rel E L τ f x K σ k) (hl : lv_has ls 4 [(3, .int i), (2, .ref y), (1, .ref x), (0, .ref b)]) (kk : lwK p l e s m below meth c b E L K τ σ x y cells slots i) : W p l e room_1 s m #[Value.ref b] below meth c H locs cells slots (lw_Z below #[Value.ref b] s) (F0 m 641 ls []) := by
  have C := Z.1
  have hx := C.1
  have hb := C.2.1
  have hbA : ¬ (fun q : Nat => s.heap.size ≤ q) b := Nat.not_le.mpr Z.2.2.2
  obtain ⟨hJ, vw, vm, hw, hw0, hm0⟩ := id hD
  refine lv_aload_n hx hb dL_law_641 rfl (lv_at hl 2 rfl) ?_
  refine lv_aload_n hx hb dL_law_642 rfl (lv_at hl 3 rfl) ?_
  refine lv_iload_n hx hb dL_law_643 rfl (lv_at hl 0 rfl) ?_
  refine lv_iconst (v := (1 : Int32)) hx hb dL_law_644 (by decide) ?_
  refine lv_iadd hx hb dL_law_645 ?_
  refine va_sld hx hb Z.2.2.1 Z.2.2.2 hbA hG.1.2.2 (lw_in h0 h6 hn (by decide)) dL_law_646 ?_
  refine t_ViG C hO hl.1 (fun _ h => h) hG hX.1 (As := [.int (sc (i + (1 : Int32)).toNatClampNeg)]) (rest := []) (t_X9_way l E J τ L f hX.1 hX.2.1 hX.2.2.1 (sc (i + (1 : Int32)).toNatClampNeg)) my_X9_way wd1321 hX.2.1 hX.2.2.1 td_0 rfl rfl rfl (Nat.le_of_ble_eq_true rfl) ⟨(Nat.le_of_ble_eq_true rfl), (Nat.le_of_ble_eq_true rfl)⟩ ⟨rfl, rfl⟩ ⟨hc, hs⟩ dL_law_647 (fun r1 L1 f1 H locs hp hG => ?_)
  obtain ⟨rfl, s1, h1⟩ := hp
  have hX0_ := hX
  have hX := hX.S s1
  have hG := hG.swap
  refine lv_pop hx hb dL_law_650 rfl ?_
  refine lv_aload_n hx hb dL_law_651 rfl (lv_at hl 1 rfl) ?_
  refine lv_aload_n hx hb dL_law_652 rfl (lv_at hl 3 rfl) ?_
  refine lv_iload_n hx hb dL_law_653 rfl (lv_at hl 0 rfl) ?_
  refine lv_iconst (v := (1 : Int32)) hx hb dL_law_654 (by decide) ?_
  refine lv_iadd hx hb dL_law_655 ?_
  refine va_sld hx hb Z.2.2.1 Z.2.2.2 hbA hG.1.2.2 (lw_in h0 h6 hn (by decide)) dL_law_656 ?_
  obtain ⟨vl, vh, hl0, hh, hRR⟩ := id hY.2.2.2.2
  refine t_ViG C hO hl.1 (fun _ h => h) hG hY.1 (As := [.int (sc (i + (1 : Int32)).toNatClampNeg)]) (rest := []) (t_X10_way l E J σ K k hY.1 hY.2.1 hY.2.2.1 (sc (i + (1 : Int32)).toNatClampNeg) hl0 hh (hRR 0 (by decide))) my_X10_way wd1325 hY.2.1 hY.2.2.1 td_40 rfl rfl rfl (Nat.le_of_ble_eq_true rfl) ⟨(Nat.le_of_ble_eq_true rfl), (Nat.le_of_ble_eq_true rfl)⟩ ⟨rfl, rfl⟩ ⟨hc, hs⟩ dL_law_657 (fun r2 K1 k1 H locs hp hG => ?_)
  obtain ⟨rfl, s2, h2⟩ := hp
  have hY := hY.S s2 rfl rfl
  have hG := hG.swap
  refine lv_pop hx hb dL_law_660 rfl ?_
  refine lv_goto (tgt := 2118) hx hb dL_law_661 (by decide) ?_
  exact kk _ _ _ _ _ hG hX hY (hD.S s1 s2 hX0_ rfl rfl rfl rfl) hl
set_option maxHeartbeats 4000000 in
set_option maxRecDepth 100000 in
theorem law_12 {p : Program} {l : Launch} {e : Env} {s : State} {m : MethodId} {below : List Frame} {meth : Method} {c : Code} {b n : Nat} {sc : Nat → Int32} {E : gE} {J : Nat → Nat} {L K : List Nat} {τ σ : Nat → Nat} {f k : gF} {x y : Nat} {H : Heap} {locs : List Loc} {cells slots : Nat} {ls : Array Slot} {i : Int32} (Z : gLw E p s m meth c b n sc) (hO : oW J (fun q : Nat => s.heap.size ≤ q) s s.heap) (hn : n ≤ 3072) (hc : cells ≤ 600000) (hs : slots ≤ 7302249) (h0 : 0 ≤ i.toInt) (h6 : i.toInt + 6 ≤ (n : Int)) (hG : gG E (fun q : Nat => s.heap.size ≤ q) L f K k s.heap H locs) (hX : iX E L τ f x) (hY : iY E K σ k y) (hD : rel E L τ f x K σ k) (hl : lv_has ls 4 [(3, .int i), (2, .ref y), (1, .ref x), (0, .ref b)]) (kk : lwK p l e s m below meth c b E L K τ σ x y cells slots i) : W p l e room_1 s m #[Value.ref b] below meth c H locs cells slots (lw_Z below #[Value.ref b] s) (F0 m 664 ls []) := by
  have C := Z.1
  have hx := C.1
  have hb := C.2.1
  have hbA : ¬ (fun q : Nat => s.heap.size ≤ q) b := Nat.not_le.mpr Z.2.2.2
  obtain ⟨hJ, vw, vm, hw, hw0, hm0⟩ := id hD
  refine lv_aload_n hx hb dL_law_664 rfl (lv_at hl 2 rfl) ?_
  refine lv_aload_n hx hb dL_law_665 rfl (lv_at hl 3 rfl) ?_
  refine lv_iload_n hx hb dL_law_666 rfl (lv_at hl 0 rfl) ?_
  refine lv_iconst (v := (1 : Int32)) hx hb dL_law_667 (by decide) ?_
  refine lv_iadd hx hb dL_law_668 ?_
  refine va_sld hx hb Z.2.2.1 Z.2.2.2 hbA hG.1.2.2 (lw_in h0 h6 hn (by decide)) dL_law_669 ?_
  refine t_ViG C hO hl.1 (fun _ h => h) hG hX.1 (As := [.int (sc (i + (1 : Int32)).toNatClampNeg)]) (rest := []) (t_X9_over l E J τ L f hX.1 hX.2.1 hX.2.2.1 (sc (i + (1 : Int32)).toNatClampNeg)) my_X9_over wd1329 hX.2.1 hX.2.2.1 td_0 rfl rfl rfl (Nat.le_of_ble_eq_true rfl) ⟨(Nat.le_of_ble_eq_true rfl), (Nat.le_of_ble_eq_true rfl)⟩ ⟨rfl, rfl⟩ ⟨hc, hs⟩ dL_law_670 (fun r1 L1 f1 H locs hp hG => ?_)
  obtain ⟨rfl, s1, h1⟩ := hp
  have hX0_ := hX
  have hX := hX.S s1
  have hG := hG.swap
  refine lv_pop hx hb dL_law_673 rfl ?_
  refine lv_aload_n hx hb dL_law_674 rfl (lv_at hl 1 rfl) ?_
  refine lv_aload_n hx hb dL_law_675 rfl (lv_at hl 3 rfl) ?_
  refine lv_iload_n hx hb dL_law_676 rfl (lv_at hl 0 rfl) ?_
  refine lv_iconst (v := (1 : Int32)) hx hb dL_law_677 (by decide) ?_
  refine lv_iadd hx hb dL_law_678 ?_
  refine va_sld hx hb Z.2.2.1 Z.2.2.2 hbA hG.1.2.2 (lw_in h0 h6 hn (by decide)) dL_law_679 ?_
  obtain ⟨vl, vh, hl0, hh, hRR⟩ := id hY.2.2.2.2
  refine t_ViG C hO hl.1 (fun _ h => h) hG hY.1 (As := [.int (sc (i + (1 : Int32)).toNatClampNeg)]) (rest := []) (t_X10_over l E J σ K k hY.1 hY.2.1 hY.2.2.1 (sc (i + (1 : Int32)).toNatClampNeg) hl0 hh (hRR 0 (by decide))) my_X10_over wd1333 hY.2.1 hY.2.2.1 td_40 rfl rfl rfl (Nat.le_of_ble_eq_true rfl) ⟨(Nat.le_of_ble_eq_true rfl), (Nat.le_of_ble_eq_true rfl)⟩ ⟨rfl, rfl⟩ ⟨hc, hs⟩ dL_law_680 (fun r2 K1 k1 H locs hp hG => ?_)
  obtain ⟨rfl, s2, h2⟩ := hp
  have hY := hY.S s2 rfl rfl
  have hG := hG.swap
  refine lv_pop hx hb dL_law_683 rfl ?_
  refine lv_goto (tgt := 2118) hx hb dL_law_684 (by decide) ?_
  exact kk _ _ _ _ _ hG hX hY (hD.S s1 s2 hX0_ rfl rfl rfl rfl) hl
set_option maxHeartbeats 4000000 in
set_option maxRecDepth 100000 in
theorem law_13 {p : Program} {l : Launch} {e : Env} {s : State} {m : MethodId} {below : List Frame} {meth : Method} {c : Code} {b n : Nat} {sc : Nat → Int32} {E : gE} {J : Nat → Nat} {L K : List Nat} {τ σ : Nat → Nat} {f k : gF} {x y : Nat} {H : Heap} {locs : List Loc} {cells slots : Nat} {ls : Array Slot} {i : Int32} (Z : gLw E p s m meth c b n sc) (hO : oW J (fun q : Nat => s.heap.size ≤ q) s s.heap) (hn : n ≤ 3072) (hc : cells ≤ 600000) (hs : slots ≤ 7302249) (h0 : 0 ≤ i.toInt) (h6 : i.toInt + 6 ≤ (n : Int)) (hG : gG E (fun q : Nat => s.heap.size ≤ q) L f K k s.heap H locs) (hX : iX E L τ f x) (hY : iY E K σ k y) (hD : rel E L τ f x K σ k) (hl : lv_has ls 4 [(3, .int i), (2, .ref y), (1, .ref x), (0, .ref b)]) (kk : lwK p l e s m below meth c b E L K τ σ x y cells slots i) : W p l e room_1 s m #[Value.ref b] below meth c H locs cells slots (lw_Z below #[Value.ref b] s) (F0 m 687 ls []) := by
  have C := Z.1
  have hx := C.1
  have hb := C.2.1
  have hbA : ¬ (fun q : Nat => s.heap.size ≤ q) b := Nat.not_le.mpr Z.2.2.2
  obtain ⟨hJ, vw, vm, hw, hw0, hm0⟩ := id hD
  refine lv_aload_n hx hb dL_law_687 rfl (lv_at hl 2 rfl) ?_
  refine lv_aload_n hx hb dL_law_688 rfl (lv_at hl 3 rfl) ?_
  refine lv_iload_n hx hb dL_law_689 rfl (lv_at hl 0 rfl) ?_
  refine lv_iconst (v := (1 : Int32)) hx hb dL_law_690 (by decide) ?_
  refine lv_iadd hx hb dL_law_691 ?_
  refine va_sld hx hb Z.2.2.1 Z.2.2.2 hbA hG.1.2.2 (lw_in h0 h6 hn (by decide)) dL_law_692 ?_
  refine lv_aload_n hx hb dL_law_693 rfl (lv_at hl 3 rfl) ?_
  refine lv_iload_n hx hb dL_law_694 rfl (lv_at hl 0 rfl) ?_
  refine lv_iconst (v := (2 : Int32)) hx hb dL_law_695 (by decide) ?_
  refine lv_iadd hx hb dL_law_696 ?_
  refine va_sld hx hb Z.2.2.1 Z.2.2.2 hbA hG.1.2.2 (lw_in h0 h6 hn (by decide)) dL_law_697 ?_
  refine t_ViG C hO hl.1 (fun _ h => h) hG hX.1 (As := [.int (sc (i + (1 : Int32)).toNatClampNeg), .int (sc (i + (2 : Int32)).toNatClampNeg)]) (rest := []) (t_X9_geese l E J τ L f hX.1 hX.2.1 hX.2.2.1 (sc (i + (1 : Int32)).toNatClampNeg) (sc (i + (2 : Int32)).toNatClampNeg)) my_X9_geese wd1337 hX.2.1 hX.2.2.1 td_0 rfl rfl rfl (Nat.le_of_ble_eq_true rfl) ⟨(Nat.le_of_ble_eq_true rfl), (Nat.le_of_ble_eq_true rfl)⟩ ⟨rfl, rfl⟩ ⟨hc, hs⟩ dL_law_698 (fun r1 L1 f1 H locs hp hG => ?_)
  obtain ⟨rfl, s1, h1⟩ := hp
  have hX0_ := hX
  have hX := hX.S s1
  have hG := hG.swap
  refine lv_pop hx hb dL_law_701 rfl ?_
  refine lv_aload_n hx hb dL_law_702 rfl (lv_at hl 1 rfl) ?_
  refine lv_aload_n hx hb dL_law_703 rfl (lv_at hl 3 rfl) ?_
  refine lv_iload_n hx hb dL_law_704 rfl (lv_at hl 0 rfl) ?_
  refine lv_iconst (v := (1 : Int32)) hx hb dL_law_705 (by decide) ?_
  refine lv_iadd hx hb dL_law_706 ?_
  refine va_sld hx hb Z.2.2.1 Z.2.2.2 hbA hG.1.2.2 (lw_in h0 h6 hn (by decide)) dL_law_707 ?_
  refine lv_aload_n hx hb dL_law_708 rfl (lv_at hl 3 rfl) ?_
  refine lv_iload_n hx hb dL_law_709 rfl (lv_at hl 0 rfl) ?_
  refine lv_iconst (v := (2 : Int32)) hx hb dL_law_710 (by decide) ?_
  refine lv_iadd hx hb dL_law_711 ?_
  refine va_sld hx hb Z.2.2.1 Z.2.2.2 hbA hG.1.2.2 (lw_in h0 h6 hn (by decide)) dL_law_712 ?_
  obtain ⟨vl, vh, hl0, hh, hRR⟩ := id hY.2.2.2.2
  refine t_ViG C hO hl.1 (fun _ h => h) hG hY.1 (As := [.int (sc (i + (1 : Int32)).toNatClampNeg), .int (sc (i + (2 : Int32)).toNatClampNeg)]) (rest := []) (t_X10_geese l E J σ K k hY.1 hY.2.1 hY.2.2.1 (sc (i + (1 : Int32)).toNatClampNeg) (sc (i + (2 : Int32)).toNatClampNeg) hl0 hh (hRR 0 (by decide))) my_X10_geese wd1341 hY.2.1 hY.2.2.1 td_40 rfl rfl rfl (Nat.le_of_ble_eq_true rfl) ⟨(Nat.le_of_ble_eq_true rfl), (Nat.le_of_ble_eq_true rfl)⟩ ⟨rfl, rfl⟩ ⟨hc, hs⟩ dL_law_713 (fun r2 K1 k1 H locs hp hG => ?_)
  obtain ⟨rfl, s2, h2⟩ := hp
  have hY := hY.S s2 rfl rfl
  have hG := hG.swap
  refine lv_pop hx hb dL_law_716 rfl ?_
  refine lv_goto (tgt := 2118) hx hb dL_law_717 (by decide) ?_
  exact kk _ _ _ _ _ hG hX hY (hD.S s1 s2 hX0_ rfl rfl rfl rfl) hl
