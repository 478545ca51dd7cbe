set_option maxHeartbeats 4000000 in
set_option maxRecDepth 100000 in
theorem law_42 {p : Program} {l : Launch} {e : Env} {s : State} {m : MethodId} {below : List Frame} {meth : Method} {c : Code} {b n : Nat} {sc : Nat → Int32} {E : gE} {J : Nat → Nat} {L K : List Nat} {τ σ : Nat → Nat} {f k : gF} {x y : Nat} {H : Heap} {locs : List Loc} {cells slots : Nat} {ls : Array Slot} {i : Int32} (Z : gLw E p s m meth c b n sc) (hO : oW J (fun q : Nat => s.heap.size ≤ q) s s.heap) (hn : n ≤ 3072) (hc : cells ≤ 600000) (hs : slots ≤ 7302249) (h0 : 0 ≤ i.toInt) (h6 : i.toInt + 6 ≤ (n : Int)) (hG : gG E (fun q : Nat => s.heap.size ≤ q) L f K k s.heap H locs) (hX : iX E L τ f x) (hY : iY E K σ k y) (hD : rel E L τ f x K σ k) (hl : lv_has ls 4 [(3, .int i), (2, .ref y), (1, .ref x), (0, .ref b)]) (kk : lwK p l e s m below meth c b E L K τ σ x y cells slots i) : W p l e room_1 s m #[Value.ref b] below meth c H locs cells slots (lw_Z below #[Value.ref b] s) (F0 m 1264 ls []) := by
  have C := Z.1
  have hx := C.1
  have hb := C.2.1
  have hbA : ¬ (fun q : Nat => s.heap.size ≤ q) b := Nat.not_le.mpr Z.2.2.2
  obtain ⟨hJ, vw, vm, hw, hw0, hm0⟩ := id hD
  refine lv_aload_n hx hb dL_law_1264 rfl (lv_at hl 2 rfl) ?_
  refine lv_aload_n hx hb dL_law_1265 rfl (lv_at hl 3 rfl) ?_
  refine lv_iload_n hx hb dL_law_1266 rfl (lv_at hl 0 rfl) ?_
  refine lv_iconst (v := (1 : Int32)) hx hb dL_law_1267 (by decide) ?_
  refine lv_iadd hx hb dL_law_1268 ?_
  refine va_sld hx hb Z.2.2.1 Z.2.2.2 hbA hG.1.2.2 (lw_in h0 h6 hn (by decide)) dL_law_1269 ?_
  refine t_ViG C hO hl.1 (fun _ h => h) hG hX.1 (As := [.int (sc (i + (1 : Int32)).toNatClampNeg)]) (rest := []) (t_X9_spots l E J τ L f hX.1 hX.2.1 hX.2.2.1 (sc (i + (1 : Int32)).toNatClampNeg)) my_X9_spots wd1569 hX.2.1 hX.2.2.1 td_0 rfl rfl rfl (Nat.le_of_ble_eq_true rfl) ⟨(Nat.le_of_ble_eq_true rfl), (Nat.le_of_ble_eq_true rfl)⟩ ⟨rfl, rfl⟩ ⟨hc, hs⟩ dL_law_1270 (fun r1 L1 f1 H locs hp hG => ?_)
  obtain ⟨rfl, s1, h1⟩ := hp
  have hX0_ := hX
  have hX := hX.S s1
  have hG := hG.swap
  refine lv_pop hx hb dL_law_1273 rfl ?_
  refine lv_aload_n hx hb dL_law_1274 rfl (lv_at hl 1 rfl) ?_
  refine lv_aload_n hx hb dL_law_1275 rfl (lv_at hl 3 rfl) ?_
  refine lv_iload_n hx hb dL_law_1276 rfl (lv_at hl 0 rfl) ?_
  refine lv_iconst (v := (1 : Int32)) hx hb dL_law_1277 (by decide) ?_
  refine lv_iadd hx hb dL_law_1278 ?_
  refine va_sld hx hb Z.2.2.1 Z.2.2.2 hbA hG.1.2.2 (lw_in h0 h6 hn (by decide)) dL_law_1279 ?_
  obtain ⟨vl, vh, hl0, hh, hRR⟩ := id hY.2.2.2.2
  obtain ⟨vm, vc, hm0, hc0⟩ := hY.m
  refine t_ViG C hO hl.1 (fun _ h => h) hG hY.1 (As := [.int (sc (i + (1 : Int32)).toNatClampNeg)]) (rest := []) (t_X10_spots l E J σ K k hY.1 hY.2.1 hY.2.2.1 (sc (i + (1 : Int32)).toNatClampNeg) hl0 hh (hRR 0 (by decide)) hm0 hc0) my_X10_spots wd1573 hY.2.1 hY.2.2.1 td_40 rfl rfl rfl (Nat.le_of_ble_eq_true rfl) ⟨(Nat.le_of_ble_eq_true rfl), (Nat.le_of_ble_eq_true rfl)⟩ ⟨rfl, rfl⟩ ⟨hc, hs⟩ dL_law_1280 (fun r2 K1 k1 H locs hp hG => ?_)
  obtain ⟨rfl, s2, h2⟩ := hp
  have hY := hY.S s2 rfl rfl
  have hG := hG.swap
  refine lv_pop hx hb dL_law_1283 rfl ?_
  refine lv_goto (tgt := 2118) hx hb dL_law_1284 (by decide) ?_
  exact kk _ _ _ _ _ hG hX hY (hD.S s1 s2 hX0_ rfl rfl rfl rfl) hl
set_option maxHeartbeats 4000000 in
set_option maxRecDepth 100000 in
theorem law_43 {p : Program} {l : Launch} {e : Env} {s : State} {m : MethodId} {below : List Frame} {meth : Method} {c : Code} {b n : Nat} {sc : Nat → Int32} {E : gE} {J : Nat → Nat} {L K : List Nat} {τ σ : Nat → Nat} {f k : gF} {x y : Nat} {H : Heap} {locs : List Loc} {cells slots : Nat} {ls : Array Slot} {i : Int32} (Z : gLw E p s m meth c b n sc) (hO : oW J (fun q : Nat => s.heap.size ≤ q) s s.heap) (hn : n ≤ 3072) (hc : cells ≤ 600000) (hs : slots ≤ 7302249) (h0 : 0 ≤ i.toInt) (h6 : i.toInt + 6 ≤ (n : Int)) (hG : gG E (fun q : Nat => s.heap.size ≤ q) L f K k s.heap H locs) (hX : iX E L τ f x) (hY : iY E K σ k y) (hD : rel E L τ f x K σ k) (hl : lv_has ls 4 [(3, .int i), (2, .ref y), (1, .ref x), (0, .ref b)]) (kk : lwK p l e s m below meth c b E L K τ σ x y cells slots i) : W p l e room_1 s m #[Value.ref b] below meth c H locs cells slots (lw_Z below #[Value.ref b] s) (F0 m 1287 ls []) := by
  have C := Z.1
  have hx := C.1
  have hb := C.2.1
  have hbA : ¬ (fun q : Nat => s.heap.size ≤ q) b := Nat.not_le.mpr Z.2.2.2
  obtain ⟨hJ, vw, vm, hw, hw0, hm0⟩ := id hD
  refine lv_aload_n hx hb dL_law_1287 rfl (lv_at hl 2 rfl) ?_
  refine lv_aload_n hx hb dL_law_1288 rfl (lv_at hl 3 rfl) ?_
  refine lv_iload_n hx hb dL_law_1289 rfl (lv_at hl 0 rfl) ?_
  refine lv_iconst (v := (1 : Int32)) hx hb dL_law_1290 (by decide) ?_
  refine lv_iadd hx hb dL_law_1291 ?_
  refine va_sld hx hb Z.2.2.1 Z.2.2.2 hbA hG.1.2.2 (lw_in h0 h6 hn (by decide)) dL_law_1292 ?_
  refine t_ViG C hO hl.1 (fun _ h => h) hG hX.1 (As := [.int (sc (i + (1 : Int32)).toNatClampNeg)]) (rest := []) (t_X9_who l E J τ L f hX.1 hX.2.1 hX.2.2.1 (sc (i + (1 : Int32)).toNatClampNeg)) my_X9_who wd1577 hX.2.1 hX.2.2.1 td_0 rfl rfl rfl (Nat.le_of_ble_eq_true rfl) ⟨(Nat.le_of_ble_eq_true rfl), (Nat.le_of_ble_eq_true rfl)⟩ ⟨rfl, rfl⟩ ⟨hc, hs⟩ dL_law_1293 (fun r1 L1 f1 H locs hp hG => ?_)
  obtain ⟨rfl, s1, h1⟩ := hp
  have hX0_ := hX
  have hX := hX.S s1
  have hG := hG.swap
  refine lv_pop hx hb dL_law_1296 rfl ?_
  refine lv_aload_n hx hb dL_law_1297 rfl (lv_at hl 1 rfl) ?_
  refine lv_aload_n hx hb dL_law_1298 rfl (lv_at hl 3 rfl) ?_
  refine lv_iload_n hx hb dL_law_1299 rfl (lv_at hl 0 rfl) ?_
  refine lv_iconst (v := (1 : Int32)) hx hb dL_law_1300 (by decide) ?_
  refine lv_iadd hx hb dL_law_1301 ?_
  refine va_sld hx hb Z.2.2.1 Z.2.2.2 hbA hG.1.2.2 (lw_in h0 h6 hn (by decide)) dL_law_1302 ?_
  obtain ⟨vl, vh, hl0, hh, hRR⟩ := id hY.2.2.2.2
  obtain ⟨vm, vc, hm0, hc0⟩ := hY.m
  refine t_ViG C hO hl.1 (fun _ h => h) hG hY.1 (As := [.int (sc (i + (1 : Int32)).toNatClampNeg)]) (rest := []) (t_X10_who l E J σ K k hY.1 hY.2.1 hY.2.2.1 (sc (i + (1 : Int32)).toNatClampNeg) hl0 hh (hRR 0 (by decide)) hm0 hc0) my_X10_who wd1581 hY.2.1 hY.2.2.1 td_40 rfl rfl rfl (Nat.le_of_ble_eq_true rfl) ⟨(Nat.le_of_ble_eq_true rfl), (Nat.le_of_ble_eq_true rfl)⟩ ⟨rfl, rfl⟩ ⟨hc, hs⟩ dL_law_1303 (fun r2 K1 k1 H locs hp hG => ?_)
  obtain ⟨rfl, s2, h2⟩ := hp
  have hY := hY.S s2 rfl rfl
  have hG := hG.swap
  refine lv_pop hx hb dL_law_1306 rfl ?_
  refine lv_goto (tgt := 2118) hx hb dL_law_1307 (by decide) ?_
  exact kk _ _ _ _ _ hG hX hY (hD.S s1 s2 hX0_ rfl rfl rfl rfl) hl
set_option maxHeartbeats 4000000 in
set_option maxRecDepth 100000 in
theorem law_44 {p : Program} {l : Launch} {e : Env} {s : State} {m : MethodId} {below : List Frame} {meth : Method} {c : Code} {b n : Nat} {sc : Nat → Int32} {E : gE} {J : Nat → Nat} {L K : List Nat} {τ σ : Nat → Nat} {f k : gF} {x y : Nat} {H : Heap} {locs : List Loc} {cells slots : Nat} {ls : Array Slot} {i : Int32} (Z : gLw E p s m meth c b n sc) (hO : oW J (fun q : Nat => s.heap.size ≤ q) s s.heap) (hn : n ≤ 3072) (hc : cells ≤ 600000) (hs : slots ≤ 7302249) (h0 : 0 ≤ i.toInt) (h6 : i.toInt + 6 ≤ (n : Int)) (hG : gG E (fun q : Nat => s.heap.size ≤ q) L f K k s.heap H locs) (hX : iX E L τ f x) (hY : iY E K σ k y) (hD : rel E L τ f x K σ k) (hl : lv_has ls 4 [(3, .int i), (2, .ref y), (1, .ref x), (0, .ref b)]) (kk : lwK p l e s m below meth c b E L K τ σ x y cells slots i) : W p l e room_1 s m #[Value.ref b] below meth c H locs cells slots (lw_Z below #[Value.ref b] s) (F0 m 1310 ls []) := by
  have C := Z.1
  have hx := C.1
  have hb := C.2.1
  have hbA : ¬ (fun q : Nat => s.heap.size ≤ q) b := Nat.not_le.mpr Z.2.2.2
  obtain ⟨hJ, vw, vm, hw, hw0, hm0⟩ := id hD
  refine lv_aload_n hx hb dL_law_1310 rfl (lv_at hl 2 rfl) ?_
  refine lv_aload_n hx hb dL_law_1311 rfl (lv_at hl 3 rfl) ?_
  refine lv_iload_n hx hb dL_law_1312 rfl (lv_at hl 0 rfl) ?_
  refine lv_iconst (v := (1 : Int32)) hx hb dL_law_1313 (by decide) ?_
  refine lv_iadd hx hb dL_law_1314 ?_
  refine va_sld hx hb Z.2.2.1 Z.2.2.2 hbA hG.1.2.2 (lw_in h0 h6 hn (by decide)) dL_law_1315 ?_
  refine t_ViG C hO hl.1 (fun _ h => h) hG hX.1 (As := [.int (sc (i + (1 : Int32)).toNatClampNeg)]) (rest := []) (t_X9_leaves l E J τ L f hX.1 hX.2.1 hX.2.2.1 (sc (i + (1 : Int32)).toNatClampNeg)) my_X9_leaves wd1585 hX.2.1 hX.2.2.1 td_0 rfl rfl rfl (Nat.le_of_ble_eq_true rfl) ⟨(Nat.le_of_ble_eq_true rfl), (Nat.le_of_ble_eq_true rfl)⟩ ⟨rfl, rfl⟩ ⟨hc, hs⟩ dL_law_1316 (fun r1 L1 f1 H locs hp hG => ?_)
  obtain ⟨rfl, s1, h1⟩ := hp
  have hX0_ := hX
  have hX := hX.S s1
  have hG := hG.swap
  refine lv_pop hx hb dL_law_1319 rfl ?_
  refine lv_aload_n hx hb dL_law_1320 rfl (lv_at hl 1 rfl) ?_
  refine lv_aload_n hx hb dL_law_1321 rfl (lv_at hl 3 rfl) ?_
  refine lv_iload_n hx hb dL_law_1322 rfl (lv_at hl 0 rfl) ?_
  refine lv_iconst (v := (1 : Int32)) hx hb dL_law_1323 (by decide) ?_
  refine lv_iadd hx hb dL_law_1324 ?_
  refine va_sld hx hb Z.2.2.1 Z.2.2.2 hbA hG.1.2.2 (lw_in h0 h6 hn (by decide)) dL_law_1325 ?_
  obtain ⟨vl, vh, hl0, hh, hRR⟩ := id hY.2.2.2.2
  obtain ⟨vm, vc, hm0, hc0⟩ := hY.m
  refine t_ViG C hO hl.1 (fun _ h => h) hG hY.1 (As := [.int (sc (i + (1 : Int32)).toNatClampNeg)]) (rest := []) (t_X10_leaves l E J σ K k hY.1 hY.2.1 hY.2.2.1 (sc (i + (1 : Int32)).toNatClampNeg) hl0 hh (hRR 0 (by decide)) hm0 hc0) my_X10_leaves wd1589 hY.2.1 hY.2.2.1 td_40 rfl rfl rfl (Nat.le_of_ble_eq_true rfl) ⟨(Nat.le_of_ble_eq_true rfl), (Nat.le_of_ble_eq_true rfl)⟩ ⟨rfl, rfl⟩ ⟨hc, hs⟩ dL_law_1326 (fun r2 K1 k1 H locs hp hG => ?_)
  obtain ⟨rfl, s2, h2⟩ := hp
  have hY := hY.S s2 rfl rfl
  have hG := hG.swap
  refine lv_pop hx hb dL_law_1329 rfl ?_
  refine lv_goto (tgt := 2118) hx hb dL_law_1330 (by decide) ?_
  exact kk _ _ _ _ _ hG hX hY (hD.S s1 s2 hX0_ rfl rfl rfl rfl) hl
set_option maxHeartbeats 4000000 in
set_option maxRecDepth 100000 in
theorem law_45 {p : Program} {l : Launch} {e : Env} {s : State} {m : MethodId} {below : List Frame} {meth : Method} {c : Code} {b n : Nat} {sc : Nat → Int32} {E : gE} {J : Nat → Nat} {L K : List Nat} {τ σ : Nat → Nat} {f k : gF} {x y : Nat} {H : Heap} {locs : List Loc} {cells slots : Nat} {ls : Array Slot} {i : Int32} (Z : gLw E p s m meth c b n sc) (hO : oW J (fun q : Nat => s.heap.size ≤ q) s s.heap) (hn : n ≤ 3072) (hc : cells ≤ 600000) (hs : slots ≤ 7302249) (h0 : 0 ≤ i.toInt) (h6 : i.toInt + 6 ≤ (n : Int)) (hG : gG E (fun q : Nat => s.heap.size ≤ q) L f K k s.heap H locs) (hX : iX E L τ f x) (hY : iY E K σ k y) (hD : rel E L τ f x K σ k) (hl : lv_has ls 4 [(3, .int i), (2, .ref y), (1, .ref x), (0, .ref b)]) (kk : lwK p l e s m below meth c b E L K τ σ x y cells slots i) : W p l e room_1 s m #[Value.ref b] below meth c H locs cells slots (lw_Z below #[Value.ref b] s) (F0 m 1333 ls []) := by
  have C := Z.1
  have hx := C.1
  have hb := C.2.1
  have hbA : ¬ (fun q : Nat => s.heap.size ≤ q) b := Nat.not_le.mpr Z.2.2.2
  obtain ⟨hJ, vw, vm, hw, hw0, hm0⟩ := id hD
  refine lv_aload_n hx hb dL_law_1333 rfl (lv_at hl 2 rfl) ?_
  refine lv_aload_n hx hb dL_law_1334 rfl (lv_at hl 3 rfl) ?_
  refine lv_iload_n hx hb dL_law_1335 rfl (lv_at hl 0 rfl) ?_
  refine lv_iconst (v := (1 : Int32)) hx hb dL_law_1336 (by decide) ?_
  refine lv_iadd hx hb dL_law_1337 ?_
  refine va_sld hx hb Z.2.2.1 Z.2.2.2 hbA hG.1.2.2 (lw_in h0 h6 hn (by decide)) dL_law_1338 ?_
  refine lv_aload_n hx hb dL_law_1339 rfl (lv_at hl 3 rfl) ?_
  refine lv_iload_n hx hb dL_law_1340 rfl (lv_at hl 0 rfl) ?_
  refine lv_iconst (v := (2 : Int32)) hx hb dL_law_1341 (by decide) ?_
  refine lv_iadd hx hb dL_law_1342 ?_
  refine va_sld hx hb Z.2.2.1 Z.2.2.2 hbA hG.1.2.2 (lw_in h0 h6 hn (by decide)) dL_law_1343 ?_
  refine lv_aload_n hx hb dL_law_1344 rfl (lv_at hl 3 rfl) ?_
  refine lv_iload_n hx hb dL_law_1345 rfl (lv_at hl 0 rfl) ?_
  refine lv_iconst (v := (3 : Int32)) hx hb dL_law_1346 (by decide) ?_
  refine lv_iadd hx hb dL_law_1347 ?_
  refine va_sld hx hb Z.2.2.1 Z.2.2.2 hbA hG.1.2.2 (lw_in h0 h6 hn (by decide)) dL_law_1348 ?_
  refine t_ViG C hO hl.1 (fun _ h => h) hG hX.1 (As := [.int (sc (i + (1 : Int32)).toNatClampNeg), .int (sc (i + (2 : Int32)).toNatClampNeg), .int (sc (i + (3 : Int32)).toNatClampNeg)]) (rest := []) (t_X9_odds l E J τ L f hX.1 hX.2.1 hX.2.2.1 (sc (i + (1 : Int32)).toNatClampNeg) (sc (i + (2 : Int32)).toNatClampNeg) (sc (i + (3 : Int32)).toNatClampNeg)) my_X9_odds wd1593 hX.2.1 hX.2.2.1 td_0 rfl rfl rfl (Nat.le_of_ble_eq_true rfl) ⟨(Nat.le_of_ble_eq_true rfl), (Nat.le_of_ble_eq_true rfl)⟩ ⟨rfl, rfl⟩ ⟨hc, hs⟩ dL_law_1349 (fun r1 L1 f1 H locs hp hG => ?_)
  obtain ⟨rfl, s1, h1⟩ := hp
  have hX0_ := hX
  have hX := hX.S s1
  have hG := hG.swap
  refine lv_pop hx hb dL_law_1352 rfl ?_
  refine lv_aload_n hx hb dL_law_1353 rfl (lv_at hl 1 rfl) ?_
  refine lv_aload_n hx hb dL_law_1354 rfl (lv_at hl 3 rfl) ?_
  refine lv_iload_n hx hb dL_law_1355 rfl (lv_at hl 0 rfl) ?_
  refine lv_iconst (v := (1 : Int32)) hx hb dL_law_1356 (by decide) ?_
  refine lv_iadd hx hb dL_law_1357 ?_
  refine va_sld hx hb Z.2.2.1 Z.2.2.2 hbA hG.1.2.2 (lw_in h0 h6 hn (by decide)) dL_law_1358 ?_
  refine lv_aload_n hx hb dL_law_1359 rfl (lv_at hl 3 rfl) ?_
  refine lv_iload_n hx hb dL_law_1360 rfl (lv_at hl 0 rfl) ?_
  refine lv_iconst (v := (2 : Int32)) hx hb dL_law_1361 (by decide) ?_
  refine lv_iadd hx hb dL_law_1362 ?_
  refine va_sld hx hb Z.2.2.1 Z.2.2.2 hbA hG.1.2.2 (lw_in h0 h6 hn (by decide)) dL_law_1363 ?_
  refine lv_aload_n hx hb dL_law_1364 rfl (lv_at hl 3 rfl) ?_
  refine lv_iload_n hx hb dL_law_1365 rfl (lv_at hl 0 rfl) ?_
  refine lv_iconst (v := (3 : Int32)) hx hb dL_law_1366 (by decide) ?_
  refine lv_iadd hx hb dL_law_1367 ?_
  refine va_sld hx hb Z.2.2.1 Z.2.2.2 hbA hG.1.2.2 (lw_in h0 h6 hn (by decide)) dL_law_1368 ?_
  obtain ⟨vl, vh, hl0, hh, hRR⟩ := id hY.2.2.2.2
  obtain ⟨vm, vc, hm0, hc0⟩ := hY.m
  refine t_ViG C hO hl.1 (fun _ h => h) hG hY.1 (As := [.int (sc (i + (1 : Int32)).toNatClampNeg), .int (sc (i + (2 : Int32)).toNatClampNeg), .int (sc (i + (3 : Int32)).toNatClampNeg)]) (rest := []) (t_X10_odds l E J σ K k hY.1 hY.2.1 hY.2.2.1 (sc (i + (1 : Int32)).toNatClampNeg) (sc (i + (2 : Int32)).toNatClampNeg) (sc (i + (3 : Int32)).toNatClampNeg) hl0 hh (hRR 0 (by decide)) hm0 hc0) my_X10_odds wd1597 hY.2.1 hY.2.2.1 td_40 rfl rfl rfl (Nat.le_of_ble_eq_true rfl) ⟨(Nat.le_of_ble_eq_true rfl), (Nat.le_of_ble_eq_true rfl)⟩ ⟨rfl, rfl⟩ ⟨hc, hs⟩ dL_law_1369 (fun r2 K1 k1 H locs hp hG => ?_)
  obtain ⟨rfl, s2, h2⟩ := hp
  have hY := hY.S s2 rfl rfl
  have hG := hG.swap
  refine lv_pop hx hb dL_law_1372 rfl ?_
  refine lv_goto (tgt := 2118) hx hb dL_law_1373 (by decide) ?_
  exact kk _ _ _ _ _ hG hX hY (hD.S s1 s2 hX0_ rfl rfl rfl rfl) hl
set_option maxHeartbeats 4000000 in
set_option maxRecDepth 100000 in
theorem law_46 {p : Program} {l : Launch} {e : Env} {s : State} {m : MethodId} {below : List Frame} {meth : Method} {c : Code} {b n : Nat} {sc : Nat → Int32} {E : gE} {J : Nat → Nat} {L K : List Nat} {τ σ : Nat → Nat} {f k : gF} {x y : Nat} {H : Heap} {locs : List Loc} {cells slots : Nat} {ls : Array Slot} {i : Int32} (Z : gLw E p s m meth c b n sc) (hO : oW J (fun q : Nat => s.heap.size ≤ q) s s.heap) (hn : n ≤ 3072) (hc : cells ≤ 600000) (hs : slots ≤ 7302249) (h0 : 0 ≤ i.toInt) (h6 : i.toInt + 6 ≤ (n : Int)) (hG : gG E (fun q : Nat => s.heap.size ≤ q) L f K k s.heap H locs) (hX : iX E L τ f x) (hY : iY E K σ k y) (hD : rel E L τ f x K σ k) (hl : lv_has ls 4 [(3, .int i), (2, .ref y), (1, .ref x), (0, .ref b)]) (kk : lwK p l e s m below meth c b E L K τ σ x y cells slots i) : W p l e room_1 s m #[Value.ref b] below meth c H locs cells slots (lw_Z below #[Value.ref b] s) (F0 m 1376 ls []) := by
  have C := Z.1
  have hx := C.1
  have hb := C.2.1
  have hbA : ¬ (fun q : Nat => s.heap.size ≤ q) b := Nat.not_le.mpr Z.2.2.2
  obtain ⟨hJ, vw, vm, hw, hw0, hm0⟩ := id hD
  refine lv_aload_n hx hb dL_law_1376 rfl (lv_at hl 2 rfl) ?_
  refine t_ViG C hO hl.1 (fun _ h => h) hG hX.1 (As := []) (rest := []) (t_X9_homes l E J τ L f hX.1 hX.2.1 hX.2.2.1) my_X9_homes wd1601 hX.2.1 hX.2.2.1 td_0 rfl rfl rfl (Nat.le_of_ble_eq_true rfl) ⟨(Nat.le_of_ble_eq_true rfl), (Nat.le_of_ble_eq_true rfl)⟩ ⟨rfl, rfl⟩ ⟨hc, hs⟩ dL_law_1377 (fun r1 L1 f1 H locs hp hG => ?_)
  obtain ⟨rfl, s1, h1⟩ := hp
  have hX0_ := hX
  have hX := hX.S s1
  have hG := hG.swap
  refine lv_pop hx hb dL_law_1380 rfl ?_
  refine lv_aload_n hx hb dL_law_1381 rfl (lv_at hl 1 rfl) ?_
  obtain ⟨vl, vh, hl0, hh, hRR⟩ := id hY.2.2.2.2
  refine t_ViG C hO hl.1 (fun _ h => h) hG hY.1 (As := []) (rest := []) (t_X10_homes l E J σ K k hY.1 hY.2.1 hY.2.2.1 hl0 hh (hRR 0 (by decide))) my_X10_homes wd1605 hY.2.1 hY.2.2.1 td_40 rfl rfl rfl (Nat.le_of_ble_eq_true rfl) ⟨(Nat.le_of_ble_eq_true rfl), (Nat.le_of_ble_eq_true rfl)⟩ ⟨rfl, rfl⟩ ⟨hc, hs⟩ dL_law_1382 (fun r2 K1 k1 H locs hp hG => ?_)
  obtain ⟨rfl, s2, h2⟩ := hp
  have hY := hY.S s2 rfl rfl
  have hG := hG.swap
  refine lv_pop hx hb dL_law_1385 rfl ?_
  refine lv_goto (tgt := 2118) hx hb dL_law_1386 (by decide) ?_
  exact kk _ _ _ _ _ hG hX hY (hD.S s1 s2 hX0_ rfl rfl rfl rfl) hl
set_option maxHeartbeats 4000000 in
set_option maxRecDepth 100000 in
theorem law_47 {p : Program} {l : Launch} {e : Env} {s : State} {m : MethodId} {below : List Frame} {meth : Method} {c : Code} {b n : Nat} {sc : Nat → Int32} {E : gE} {J : Nat → Nat} {L K : List Nat} {τ σ : Nat → Nat} {f k : gF} {x y : Nat} {H : Heap} {locs : List Loc} {cells slots : Nat} {ls : Array Slot} {i : Int32} (Z : gLw E p s m meth c b n sc) (hO : oW J (fun q : Nat => s.heap.size ≤ q) s s.heap) (hn : n ≤ 3072) (hc : cells ≤ 600000) (hs : slots ≤ 7302249) (h0 : 0 ≤ i.toInt) (h6 : i.toInt + 6 ≤ (n : Int)) (hG : gG E (fun q : Nat => s.heap.size ≤ q) L f K k s.heap H locs) (hX : iX E L τ f x) (hY : iY E K σ k y) (hD : rel E L τ f x K σ k) (hl : lv_has ls 4 [(3, .int i), (2, .ref y), (1, .ref x), (0, .ref b)]) (kk : lwK p l e s m below meth c b E L K τ σ x y cells slots i) : W p l e room_1 s m #[Value.ref b] below meth c H locs cells slots (lw_Z below #[Value.ref b] s) (F0 m 1389 ls []) := by
  have C := Z.1
  have hx := C.1
  have hb := C.2.1
  have hbA : ¬ (fun q : Nat => s.heap.size ≤ q) b := Nat.not_le.mpr Z.2.2.2
  obtain ⟨hJ, vw, vm, hw, hw0, hm0⟩ := id hD
  refine lv_aload_n hx hb dL_law_1389 rfl (lv_at hl 2 rfl) ?_
  refine lv_aload_n hx hb dL_law_1390 rfl (lv_at hl 3 rfl) ?_
  refine lv_iload_n hx hb dL_law_1391 rfl (lv_at hl 0 rfl) ?_
  refine lv_iconst (v := (1 : Int32)) hx hb dL_law_1392 (by decide) ?_
  refine lv_iadd hx hb dL_law_1393 ?_
  refine va_sld hx hb Z.2.2.1 Z.2.2.2 hbA hG.1.2.2 (lw_in h0 h6 hn (by decide)) dL_law_1394 ?_
  refine t_ViG C hO hl.1 (fun _ h => h) hG hX.1 (As := [.int (sc (i + (1 : Int32)).toNatClampNeg)]) (rest := []) (t_X9_home l E J τ L f hX.1 hX.2.1 hX.2.2.1 (sc (i + (1 : Int32)).toNatClampNeg)) my_X9_home wd1609 hX.2.1 hX.2.2.1 td_0 rfl rfl rfl (Nat.le_of_ble_eq_true rfl) ⟨(Nat.le_of_ble_eq_true rfl), (Nat.le_of_ble_eq_true rfl)⟩ ⟨rfl, rfl⟩ ⟨hc, hs⟩ dL_law_1395 (fun r1 L1 f1 H locs hp hG => ?_)
  obtain ⟨rfl, s1, h1⟩ := hp
  have hX0_ := hX
  have hX := hX.S s1
  have hG := hG.swap
  refine lv_pop hx hb dL_law_1398 rfl ?_
  refine lv_aload_n hx hb dL_law_1399 rfl (lv_at hl 1 rfl) ?_
  refine lv_aload_n hx hb dL_law_1400 rfl (lv_at hl 3 rfl) ?_
  refine lv_iload_n hx hb dL_law_1401 rfl (lv_at hl 0 rfl) ?_
  refine lv_iconst (v := (1 : Int32)) hx hb dL_law_1402 (by decide) ?_
  refine lv_iadd hx hb dL_law_1403 ?_
  refine va_sld hx hb Z.2.2.1 Z.2.2.2 hbA hG.1.2.2 (lw_in h0 h6 hn (by decide)) dL_law_1404 ?_
  obtain ⟨vl, vh, hl0, hh, hRR⟩ := id hY.2.2.2.2
  refine t_ViG C hO hl.1 (fun _ h => h) hG hY.1 (As := [.int (sc (i + (1 : Int32)).toNatClampNeg)]) (rest := []) (t_X10_home l E J σ K k hY.1 hY.2.1 hY.2.2.1 (sc (i + (1 : Int32)).toNatClampNeg) hl0 hh (hRR 0 (by decide))) my_X10_home wd1613 hY.2.1 hY.2.2.1 td_40 rfl rfl rfl (Nat.le_of_ble_eq_true rfl) ⟨(Nat.le_of_ble_eq_true rfl), (Nat.le_of_ble_eq_true rfl)⟩ ⟨rfl, rfl⟩ ⟨hc, hs⟩ dL_law_1405 (fun r2 K1 k1 H locs hp hG => ?_)
  obtain ⟨rfl, s2, h2⟩ := hp
  have hY := hY.S s2 rfl rfl
  have hG := hG.swap
  refine lv_pop hx hb dL_law_1408 rfl ?_
  refine lv_goto (tgt := 2118) hx hb dL_law_1409 (by decide) ?_
  exact kk _ _ _ _ _ hG hX hY (hD.S s1 s2 hX0_ rfl rfl rfl rfl) hl
set_option maxHeartbeats 4000000 in
set_option maxRecDepth 100000 in
theorem law_48 {p : Program} {l : Launch} {e : Env} {s : State} {m : MethodId} {below : List Frame} {meth : Method} {c : Code} {b n : Nat} {sc : Nat → Int32} {E : gE} {J : Nat → Nat} {L K : List Nat} {τ σ : Nat → Nat} {f k : gF} {x y : Nat} {H : Heap} {locs : List Loc} {cells slots : Nat} {ls : Array Slot} {i : Int32} (Z : gLw E p s m meth c b n sc) (hO : oW J (fun q : Nat => s.heap.size ≤ q) s s.heap) (hn : n ≤ 3072) (hc : cells ≤ 600000) (hs : slots ≤ 7302249) (h0 : 0 ≤ i.toInt) (h6 : i.toInt + 6 ≤ (n : Int)) (hG : gG E (fun q : Nat => s.heap.size ≤ q) L f K k s.heap H locs) (hX : iX E L τ f x) (hY : iY E K σ k y) (hD : rel E L τ f x K σ k) (hl : lv_has ls 4 [(3, .int i), (2, .ref y), (1, .ref x), (0, .ref b)]) (kk : lwK p l e s m below meth c b E L K τ σ x y cells slots i) : W p l e room_1 s m #[Value.ref b] below meth c H locs cells slots (lw_Z below #[Value.ref b] s) (F0 m 1412 ls []) := by
  have C := Z.1
  have hx := C.1
  have hb := C.2.1
  have hbA : ¬ (fun q : Nat => s.heap.size ≤ q) b := Nat.not_le.mpr Z.2.2.2
  obtain ⟨hJ, vw, vm, hw, hw0, hm0⟩ := id hD
  refine lv_aload_n hx hb dL_law_1412 rfl (lv_at hl 2 rfl) ?_
  refine t_ViG C hO hl.1 (fun _ h => h) hG hX.1 (As := []) (rest := []) (t_X9_swaps l E J τ L f hX.1 hX.2.1 hX.2.2.1) my_X9_swaps wd1617 hX.2.1 hX.2.2.1 td_0 rfl rfl rfl (Nat.le_of_ble_eq_true rfl) ⟨(Nat.le_of_ble_eq_true rfl), (Nat.le_of_ble_eq_true rfl)⟩ ⟨rfl, rfl⟩ ⟨hc, hs⟩ dL_law_1413 (fun r1 L1 f1 H locs hp hG => ?_)
  obtain ⟨rfl, s1, h1⟩ := hp
  have hX0_ := hX
  have hX := hX.S s1
  have hG := hG.swap
  refine lv_pop hx hb dL_law_1416 rfl ?_
  refine lv_aload_n hx hb dL_law_1417 rfl (lv_at hl 1 rfl) ?_
  obtain ⟨vl, vh, hl0, hh, hRR⟩ := id hY.2.2.2.2
  refine t_ViG C hO hl.1 (fun _ h => h) hG hY.1 (As := []) (rest := []) (t_X10_swaps l E J σ K k hY.1 hY.2.1 hY.2.2.1 hl0 hh (hRR 0 (by decide))) my_X10_swaps wd1621 hY.2.1 hY.2.2.1 td_40 rfl rfl rfl (Nat.le_of_ble_eq_true rfl) ⟨(Nat.le_of_ble_eq_true rfl), (Nat.le_of_ble_eq_true rfl)⟩ ⟨rfl, rfl⟩ ⟨hc, hs⟩ dL_law_1418 (fun r2 K1 k1 H locs hp hG => ?_)
  obtain ⟨rfl, s2, h2⟩ := hp
  have hY := hY.S s2 rfl rfl
  have hG := hG.swap
  refine lv_pop hx hb dL_law_1421 rfl ?_
  refine lv_goto (tgt := 2118) hx hb dL_law_1422 (by decide) ?_
  exact kk _ _ _ _ _ hG hX hY (hD.S s1 s2 hX0_ rfl rfl rfl rfl) hl
set_option maxHeartbeats 4000000 in
set_option maxRecDepth 100000 in
theorem law_49 {p : Program} {l : Launch} {e : Env} {s : State} {m : MethodId} {below : List Frame} {meth : Method} {c : Code} {b n : Nat} {sc : Nat → Int32} {E : gE} {J : Nat → Nat} {L K : List Nat} {τ σ : Nat → Nat} {f k : gF} {x y : Nat} {H : Heap} {locs : List Loc} {cells slots : Nat} {ls : Array Slot} {i : Int32} (Z : gLw E p s m meth c b n sc) (hO : oW J (fun q : Nat => s.heap.size ≤ q) s s.heap) (hn : n ≤ 3072) (hc : cells ≤ 600000) (hs : slots ≤ 7302249) (h0 : 0 ≤ i.toInt) (h6 : i.toInt + 6 ≤ (n : Int)) (hG : gG E (fun q : Nat => s.heap.size ≤ q) L f K k s.heap H locs) (hX : iX E L τ f x) (hY : iY E K σ k y) (hD : rel E L τ f x K σ k) (hl : lv_has ls 4 [(3, .int i), (2, .ref y), (1, .ref x), (0, .ref b)]) (kk : lwK p l e s m below meth c b E L K τ σ x y cells slots i) : W p l e room_1 s m #[Value.ref b] below meth c H locs cells slots (lw_Z below #[Value.ref b] s) (F0 m 1425 ls []) := by
  have C := Z.1
  have hx := C.1
  have hb := C.2.1
  have hbA : ¬ (fun q : Nat => s.heap.size ≤ q) b := Nat.not_le.mpr Z.2.2.2
  obtain ⟨hJ, vw, vm, hw, hw0, hm0⟩ := id hD
  refine lv_aload_n hx hb dL_law_1425 rfl (lv_at hl 2 rfl) ?_
  refine t_ViG C hO hl.1 (fun _ h => h) hG hX.1 (As := []) (rest := []) (t_X9_swap l E J τ L f hX.1 hX.2.1 hX.2.2.1) my_X9_swap wd1625 hX.2.1 hX.2.2.1 td_0 rfl rfl rfl (Nat.le_of_ble_eq_true rfl) ⟨(Nat.le_of_ble_eq_true rfl), (Nat.le_of_ble_eq_true rfl)⟩ ⟨rfl, rfl⟩ ⟨hc, hs⟩ dL_law_1426 (fun r1 L1 f1 H locs hp hG => ?_)
  obtain ⟨rfl, s1, h1⟩ := hp
  have hX0_ := hX
  have hX := hX.S s1
  have hG := hG.swap
  refine lv_pop hx hb dL_law_1429 rfl ?_
  refine lv_aload_n hx hb dL_law_1430 rfl (lv_at hl 1 rfl) ?_
  obtain ⟨vl, vh, hl0, hh, hRR⟩ := id hY.2.2.2.2
  refine t_ViG C hO hl.1 (fun _ h => h) hG hY.1 (As := []) (rest := []) (t_X10_swap l E J σ K k hY.1 hY.2.1 hY.2.2.1 hl0 hh (hRR 0 (by decide))) my_X10_swap wd1629 hY.2.1 hY.2.2.1 td_40 rfl rfl rfl (Nat.le_of_ble_eq_true rfl) ⟨(Nat.le_of_ble_eq_true rfl), (Nat.le_of_ble_eq_true rfl)⟩ ⟨rfl, rfl⟩ ⟨hc, hs⟩ dL_law_1431 (fun r2 K1 k1 H locs hp hG => ?_)
  obtain ⟨rfl, s2, h2⟩ := hp
  have hY := hY.S s2 rfl rfl
  have hG := hG.swap
  refine lv_pop hx hb dL_law_1434 rfl ?_
  refine lv_goto (tgt := 2118) hx hb dL_law_1435 (by decide) ?_
  exact kk _ _ _ _ _ hG hX hY (hD.S s1 s2 hX0_ rfl rfl rfl rfl) hl
set_option maxHeartbeats 4000000 in
set_option maxRecDepth 100000 in
theorem law_50 {p : Program} {l : Launch} {e : Env} {s : State} {m : MethodId} {below : List Frame} {meth : Method} {c : Code} {b n : Nat} {sc : Nat → Int32} {E : gE} {J : Nat → Nat} {L K : List Nat} {τ σ : Nat → Nat} {f k : gF} {x y : Nat} {H : Heap} {locs : List Loc} {cells slots : Nat} {ls : Array Slot} {i : Int32} (Z : gLw E p s m meth c b n sc) (hO : oW J (fun q : Nat => s.heap.size ≤ q) s s.heap) (hn : n ≤ 3072) (hc : cells ≤ 600000) (hs : slots ≤ 7302249) (h0 : 0 ≤ i.toInt) (h6 : i.toInt + 6 ≤ (n : Int)) (hG : gG E (fun q : Nat => s.heap.size ≤ q) L f K k s.heap H locs) (hX : iX E L τ f x) (hY : iY E K σ k y) (hD : rel E L τ f x K σ k) (hl : lv_has ls 4 [(3, .int i), (2, .ref y), (1, .ref x), (0, .ref b)]) (kk : lwK p l e s m below meth c b E L K τ σ x y cells slots i) : W p l e room_1 s m #[Value.ref b] below meth c H locs cells slots (lw_Z below #[Value.ref b] s) (F0 m 1438 ls []) := by
  have C := Z.1
  have hx := C.1
  have hb := C.2.1
  have hbA : ¬ (fun q : Nat => s.heap.size ≤ q) b := Nat.not_le.mpr Z.2.2.2
  obtain ⟨hJ, vw, vm, hw, hw0, hm0⟩ := id hD
  refine lv_aload_n hx hb dL_law_1438 rfl (lv_at hl 2 rfl) ?_
  refine lv_aload_n hx hb dL_law_1439 rfl (lv_at hl 3 rfl) ?_
  refine lv_iload_n hx hb dL_law_1440 rfl (lv_at hl 0 rfl) ?_
  refine lv_iconst (v := (1 : Int32)) hx hb dL_law_1441 (by decide) ?_
  refine lv_iadd hx hb dL_law_1442 ?_
  refine va_sld hx hb Z.2.2.1 Z.2.2.2 hbA hG.1.2.2 (lw_in h0 h6 hn (by decide)) dL_law_1443 ?_
  refine t_ViG C hO hl.1 (fun _ h => h) hG hX.1 (As := [.int (sc (i + (1 : Int32)).toNatClampNeg)]) (rest := []) (t_X9_price l E J τ L f hX.1 hX.2.1 hX.2.2.1 (sc (i + (1 : Int32)).toNatClampNeg)) my_X9_price wd1633 hX.2.1 hX.2.2.1 td_0 rfl rfl rfl (Nat.le_of_ble_eq_true rfl) ⟨(Nat.le_of_ble_eq_true rfl), (Nat.le_of_ble_eq_true rfl)⟩ ⟨rfl, rfl⟩ ⟨hc, hs⟩ dL_law_1444 (fun r1 L1 f1 H locs hp hG => ?_)
  obtain ⟨rfl, s1, h1⟩ := hp
  have hX0_ := hX
  have hX := hX.S s1
  have hG := hG.swap
  refine lv_pop hx hb dL_law_1447 rfl ?_
  refine lv_aload_n hx hb dL_law_1448 rfl (lv_at hl 1 rfl) ?_
  refine lv_aload_n hx hb dL_law_1449 rfl (lv_at hl 3 rfl) ?_
  refine lv_iload_n hx hb dL_law_1450 rfl (lv_at hl 0 rfl) ?_
  refine lv_iconst (v := (1 : Int32)) hx hb dL_law_1451 (by decide) ?_
  refine lv_iadd hx hb dL_law_1452 ?_
  refine va_sld hx hb Z.2.2.1 Z.2.2.2 hbA hG.1.2.2 (lw_in h0 h6 hn (by decide)) dL_law_1453 ?_
  obtain ⟨vl, vh, hl0, hh, hRR⟩ := id hY.2.2.2.2
  refine t_ViG C hO hl.1 (fun _ h => h) hG hY.1 (As := [.int (sc (i + (1 : Int32)).toNatClampNeg)]) (rest := []) (t_X10_price l E J σ K k hY.1 hY.2.1 hY.2.2.1 (sc (i + (1 : Int32)).toNatClampNeg) hl0 hh (hRR 0 (by decide))) my_X10_price wd1637 hY.2.1 hY.2.2.1 td_40 rfl rfl rfl (Nat.le_of_ble_eq_true rfl) ⟨(Nat.le_of_ble_eq_true rfl), (Nat.le_of_ble_eq_true rfl)⟩ ⟨rfl, rfl⟩ ⟨hc, hs⟩ dL_law_1454 (fun r2 K1 k1 H locs hp hG => ?_)
  obtain ⟨rfl, s2, h2⟩ := hp
  have hY := hY.S s2 rfl rfl
  have hG := hG.swap
  refine lv_pop hx hb dL_law_1457 rfl ?_
  refine lv_goto (tgt := 2118) hx hb dL_law_1458 (by decide) ?_
  exact kk _ _ _ _ _ hG hX hY (hD.S s1 s2 hX0_ rfl rfl rfl rfl) hl
set_option maxHeartbeats 4000000 in
set_option maxRecDepth 100000 in
theorem law_51 {p : Program} {l : Launch} {e : Env} {s : State} {m : MethodId} {below : List Frame} {meth : Method} {c : Code} {b n : Nat} {sc : Nat → Int32} {E : gE} {J : Nat → Nat} {L K : List Nat} {τ σ : Nat → Nat} {f k : gF} {x y : Nat} {H : Heap} {locs : List Loc} {cells slots : Nat} {ls : Array Slot} {i : Int32} (Z : gLw E p s m meth c b n sc) (hO : oW J (fun q : Nat => s.heap.size ≤ q) s s.heap) (hn : n ≤ 3072) (hc : cells ≤ 600000) (hs : slots ≤ 7302249) (h0 : 0 ≤ i.toInt) (h6 : i.toInt + 6 ≤ (n : Int)) (hG : gG E (fun q : Nat => s.heap.size ≤ q) L f K k s.heap H locs) (hX : iX E L τ f x) (hY : iY E K σ k y) (hD : rel E L τ f x K σ k) (hl : lv_has ls 4 [(3, .int i), (2, .ref y), (1, .ref x), (0, .ref b)]) (kk : lwK p l e s m below meth c b E L K τ σ x y cells slots i) : W p l e room_1 s m #[Value.ref b] below meth c H locs cells slots (lw_Z below #[Value.ref b] s) (F0 m 1461 ls []) := by
  have C := Z.1
  have hx := C.1
  have hb := C.2.1
  have hbA : ¬ (fun q : Nat => s.heap.size ≤ q) b := Nat.not_le.mpr Z.2.2.2
  obtain ⟨hJ, vw, vm, hw, hw0, hm0⟩ := id hD
  refine lv_aload_n hx hb dL_law_1461 rfl (lv_at hl 2 rfl) ?_
  refine lv_aload_n hx hb dL_law_1462 rfl (lv_at hl 3 rfl) ?_
  refine lv_iload_n hx hb dL_law_1463 rfl (lv_at hl 0 rfl) ?_
  refine lv_iconst (v := (1 : Int32)) hx hb dL_law_1464 (by decide) ?_
  refine lv_iadd hx hb dL_law_1465 ?_
  refine va_sld hx hb Z.2.2.1 Z.2.2.2 hbA hG.1.2.2 (lw_in h0 h6 hn (by decide)) dL_law_1466 ?_
  refine lv_aload_n hx hb dL_law_1467 rfl (lv_at hl 3 rfl) ?_
  refine lv_iload_n hx hb dL_law_1468 rfl (lv_at hl 0 rfl) ?_
  refine lv_iconst (v := (2 : Int32)) hx hb dL_law_1469 (by decide) ?_
  refine lv_iadd hx hb dL_law_1470 ?_
  refine va_sld hx hb Z.2.2.1 Z.2.2.2 hbA hG.1.2.2 (lw_in h0 h6 hn (by decide)) dL_law_1471 ?_
  refine t_ViG C hO hl.1 (fun _ h => h) hG hX.1 (As := [.int (sc (i + (1 : Int32)).toNatClampNeg), .int (sc (i + (2 : Int32)).toNatClampNeg)]) (rest := []) (t_X9_cut l E J τ L f hX.1 hX.2.1 hX.2.2.1 (sc (i + (1 : Int32)).toNatClampNeg) (sc (i + (2 : Int32)).toNatClampNeg) hX.2.2.2) my_X9_cut wd1641 hX.2.1 hX.2.2.1 td_0 rfl rfl rfl (Nat.le_of_ble_eq_true rfl) ⟨(Nat.le_of_ble_eq_true rfl), (Nat.le_of_ble_eq_true rfl)⟩ ⟨rfl, rfl⟩ ⟨hc, hs⟩ dL_law_1472 (fun r1 L1 f1 H locs hp hG => ?_)
  obtain ⟨rfl, s1, h1⟩ := hp
  have hX0_ := hX
  have hX := hX.S s1
  have hG := hG.swap
  refine lv_pop hx hb dL_law_1475 rfl ?_
  refine lv_aload_n hx hb dL_law_1476 rfl (lv_at hl 1 rfl) ?_
  refine lv_aload_n hx hb dL_law_1477 rfl (lv_at hl 3 rfl) ?_
  refine lv_iload_n hx hb dL_law_1478 rfl (lv_at hl 0 rfl) ?_
  refine lv_iconst (v := (1 : Int32)) hx hb dL_law_1479 (by decide) ?_
  refine lv_iadd hx hb dL_law_1480 ?_
  refine va_sld hx hb Z.2.2.1 Z.2.2.2 hbA hG.1.2.2 (lw_in h0 h6 hn (by decide)) dL_law_1481 ?_
  refine lv_aload_n hx hb dL_law_1482 rfl (lv_at hl 3 rfl) ?_
  refine lv_iload_n hx hb dL_law_1483 rfl (lv_at hl 0 rfl) ?_
  refine lv_iconst (v := (2 : Int32)) hx hb dL_law_1484 (by decide) ?_
  refine lv_iadd hx hb dL_law_1485 ?_
  refine va_sld hx hb Z.2.2.1 Z.2.2.2 hbA hG.1.2.2 (lw_in h0 h6 hn (by decide)) dL_law_1486 ?_
  obtain ⟨vl, vh, hl0, hh, hRR⟩ := id hY.2.2.2.2
  refine t_ViG C hO hl.1 (fun _ h => h) hG hY.1 (As := [.int (sc (i + (1 : Int32)).toNatClampNeg), .int (sc (i + (2 : Int32)).toNatClampNeg)]) (rest := []) (t_X10_cut_ l E J σ K k hY.1 hY.2.1 hY.2.2.1 (sc (i + (1 : Int32)).toNatClampNeg) (sc (i + (2 : Int32)).toNatClampNeg) hl0 hh (hRR 0 (by decide))) my_X10_cut_ wd1645 hY.2.1 hY.2.2.1 td_40 rfl rfl rfl (Nat.le_of_ble_eq_true rfl) ⟨(Nat.le_of_ble_eq_true rfl), (Nat.le_of_ble_eq_true rfl)⟩ ⟨rfl, rfl⟩ ⟨hc, hs⟩ dL_law_1487 (fun r2 K1 k1 H locs hp hG => ?_)
  obtain ⟨rfl, s2, h2⟩ := hp
  have hY := hY.S s2 rfl rfl
  have hG := hG.swap
  refine lv_pop hx hb dL_law_1490 rfl ?_
  refine lv_goto (tgt := 2118) hx hb dL_law_1491 (by decide) ?_
  exact kk _ _ _ _ _ hG hX hY (hD.S s1 s2 hX0_ rfl rfl rfl rfl) hl
set_option maxHeartbeats 4000000 in
set_option maxRecDepth 100000 in
theorem law_52 {p : Program} {l : Launch} {e : Env} {s : State} {m : MethodId} {below : List Frame} {meth : Method} {c : Code} {b n : Nat} {sc : Nat → Int32} {E : gE} {J : Nat → Nat} {L K : List Nat} {τ σ : Nat → Nat} {f k : gF} {x y : Nat} {H : Heap} {locs : List Loc} {cells slots : Nat} {ls : Array Slot} {i : Int32} (Z : gLw E p s m meth c b n sc) (hO : oW J (fun q : Nat => s.heap.size ≤ q) s s.heap) (hn : n ≤ 3072) (hc : cells ≤ 600000) (hs : slots ≤ 7302249) (h0 : 0 ≤ i.toInt) (h6 : i.toInt + 6 ≤ (n : Int)) (hG : gG E (fun q : Nat => s.heap.size ≤ q) L f K k s.heap H locs) (hX : iX E L τ f x) (hY : iY E K σ k y) (hD : rel E L τ f x K σ k) (hl : lv_has ls 4 [(3, .int i), (2, .ref y), (1, .ref x), (0, .ref b)]) (kk : lwK p l e s m below meth c b E L K τ σ x y cells slots i) : W p l e room_1 s m #[Value.ref b] below meth c H locs cells slots (lw_Z below #[Value.ref b] s) (F0 m 1494 ls []) := by
  have C := Z.1
  have hx := C.1
  have hb := C.2.1
  have hbA : ¬ (fun q : Nat => s.heap.size ≤ q) b := Nat.not_le.mpr Z.2.2.2
  obtain ⟨hJ, vw, vm, hw, hw0, hm0⟩ := id hD
  refine lv_aload_n hx hb dL_law_1494 rfl (lv_at hl 2 rfl) ?_
  refine lv_aload_n hx hb dL_law_1495 rfl (lv_at hl 3 rfl) ?_
  refine lv_iload_n hx hb dL_law_1496 rfl (lv_at hl 0 rfl) ?_
  refine lv_iconst (v := (1 : Int32)) hx hb dL_law_1497 (by decide) ?_
  refine lv_iadd hx hb dL_law_1498 ?_
  refine va_sld hx hb Z.2.2.1 Z.2.2.2 hbA hG.1.2.2 (lw_in h0 h6 hn (by decide)) dL_law_1499 ?_
  refine lv_aload_n hx hb dL_law_1500 rfl (lv_at hl 3 rfl) ?_
  refine lv_iload_n hx hb dL_law_1501 rfl (lv_at hl 0 rfl) ?_
  refine lv_iconst (v := (2 : Int32)) hx hb dL_law_1502 (by decide) ?_
  refine lv_iadd hx hb dL_law_1503 ?_
  refine va_sld hx hb Z.2.2.1 Z.2.2.2 hbA hG.1.2.2 (lw_in h0 h6 hn (by decide)) dL_law_1504 ?_
  refine t_ViG C hO hl.1 (fun _ h => h) hG hX.1 (As := [.int (sc (i + (1 : Int32)).toNatClampNeg), .int (sc (i + (2 : Int32)).toNatClampNeg)]) (rest := []) (t_X9_rests l E J τ L f hX.1 hX.2.1 hX.2.2.1 (sc (i + (1 : Int32)).toNatClampNeg) (sc (i + (2 : Int32)).toNatClampNeg)) my_X9_rests wd1649 hX.2.1 hX.2.2.1 td_0 rfl rfl rfl (Nat.le_of_ble_eq_true rfl) ⟨(Nat.le_of_ble_eq_true rfl), (Nat.le_of_ble_eq_true rfl)⟩ ⟨rfl, rfl⟩ ⟨hc, hs⟩ dL_law_1505 (fun r1 L1 f1 H locs hp hG => ?_)
  obtain ⟨rfl, s1, h1⟩ := hp
  have hX0_ := hX
  have hX := hX.S s1
  have hG := hG.swap
  refine lv_pop hx hb dL_law_1508 rfl ?_
  refine lv_aload_n hx hb dL_law_1509 rfl (lv_at hl 1 rfl) ?_
  refine lv_aload_n hx hb dL_law_1510 rfl (lv_at hl 3 rfl) ?_
  refine lv_iload_n hx hb dL_law_1511 rfl (lv_at hl 0 rfl) ?_
  refine lv_iconst (v := (1 : Int32)) hx hb dL_law_1512 (by decide) ?_
  refine lv_iadd hx hb dL_law_1513 ?_
  refine va_sld hx hb Z.2.2.1 Z.2.2.2 hbA hG.1.2.2 (lw_in h0 h6 hn (by decide)) dL_law_1514 ?_
  refine lv_aload_n hx hb dL_law_1515 rfl (lv_at hl 3 rfl) ?_
  refine lv_iload_n hx hb dL_law_1516 rfl (lv_at hl 0 rfl) ?_
  refine lv_iconst (v := (2 : Int32)) hx hb dL_law_1517 (by decide) ?_
  refine lv_iadd hx hb dL_law_1518 ?_
  refine va_sld hx hb Z.2.2.1 Z.2.2.2 hbA hG.1.2.2 (lw_in h0 h6 hn (by decide)) dL_law_1519 ?_
  obtain ⟨vl, vh, hl0, hh, hRR⟩ := id hY.2.2.2.2
  refine t_ViG C hO hl.1 (fun _ h => h) hG hY.1 (As := [.int (sc (i + (1 : Int32)).toNatClampNeg), .int (sc (i + (2 : Int32)).toNatClampNeg)]) (rest := []) (t_X10_rests l E J σ K k hY.1 hY.2.1 hY.2.2.1 (sc (i + (1 : Int32)).toNatClampNeg) (sc (i + (2 : Int32)).toNatClampNeg) hl0 hh (hRR 0 (by decide))) my_X10_rests wd1653 hY.2.1 hY.2.2.1 td_40 rfl rfl rfl (Nat.le_of_ble_eq_true rfl) ⟨(Nat.le_of_ble_eq_true rfl), (Nat.le_of_ble_eq_true rfl)⟩ ⟨rfl, rfl⟩ ⟨hc, hs⟩ dL_law_1520 (fun r2 K1 k1 H locs hp hG => ?_)
  obtain ⟨rfl, s2, h2⟩ := hp
  have hY := hY.S s2 rfl rfl
  have hG := hG.swap
  refine lv_pop hx hb dL_law_1523 rfl ?_
  refine lv_goto (tgt := 2118) hx hb dL_law_1524 (by decide) ?_
  exact kk _ _ _ _ _ hG hX hY (hD.S s1 s2 hX0_ rfl rfl rfl rfl) hl
set_option maxHeartbeats 4000000 in
set_option maxRecDepth 100000 in
theorem law_53 {p : Program} {l : Launch} {e : Env} {s : State} {m : MethodId} {below : List Frame} {meth : Method} {c : Code} {b n : Nat} {sc : Nat → Int32} {E : gE} {J : Nat → Nat} {L K : List Nat} {τ σ : Nat → Nat} {f k : gF} {x y : Nat} {H : Heap} {locs : List Loc} {cells slots : Nat} {ls : Array Slot} {i : Int32} (Z : gLw E p s m meth c b n sc) (hO : oW J (fun q : Nat => s.heap.size ≤ q) s s.heap) (hn : n ≤ 3072) (hc : cells ≤ 600000) (hs : slots ≤ 7302249) (h0 : 0 ≤ i.toInt) (h6 : i.toInt + 6 ≤ (n : Int)) (hG : gG E (fun q : Nat => s.heap.size ≤ q) L f K k s.heap H locs) (hX : iX E L τ f x) (hY : iY E K σ k y) (hD : rel E L τ f x K σ k) (hl : lv_has ls 4 [(3, .int i), (2, .ref y), (1, .ref x), (0, .ref b)]) (kk : lwK p l e s m below meth c b E L K τ σ x y cells slots i) : W p l e room_1 s m #[Value.ref b] below meth c H locs cells slots (lw_Z below #[Value.ref b] s) (F0 m 1527 ls []) := by
  have C := Z.1
  have hx := C.1
  have hb := C.2.1
  have hbA : ¬ (fun q : Nat => s.heap.size ≤ q) b := Nat.not_le.mpr Z.2.2.2
  obtain ⟨hJ, vw, vm, hw, hw0, hm0⟩ := id hD
  refine lv_aload_n hx hb dL_law_1527 rfl (lv_at hl 2 rfl) ?_
  refine lv_aload_n hx hb dL_law_1528 rfl (lv_at hl 3 rfl) ?_
  refine lv_iload_n hx hb dL_law_1529 rfl (lv_at hl 0 rfl) ?_
  refine lv_iconst (v := (1 : Int32)) hx hb dL_law_1530 (by decide) ?_
  refine lv_iadd hx hb dL_law_1531 ?_
  refine va_sld hx hb Z.2.2.1 Z.2.2.2 hbA hG.1.2.2 (lw_in h0 h6 hn (by decide)) dL_law_1532 ?_
  refine lv_aload_n hx hb dL_law_1533 rfl (lv_at hl 3 rfl) ?_
  refine lv_iload_n hx hb dL_law_1534 rfl (lv_at hl 0 rfl) ?_
  refine lv_iconst (v := (2 : Int32)) hx hb dL_law_1535 (by decide) ?_
  refine lv_iadd hx hb dL_law_1536 ?_
  refine va_sld hx hb Z.2.2.1 Z.2.2.2 hbA hG.1.2.2 (lw_in h0 h6 hn (by decide)) dL_law_1537 ?_
  refine lv_aload_n hx hb dL_law_1538 rfl (lv_at hl 3 rfl) ?_
  refine lv_iload_n hx hb dL_law_1539 rfl (lv_at hl 0 rfl) ?_
  refine lv_iconst (v := (3 : Int32)) hx hb dL_law_1540 (by decide) ?_
  refine lv_iadd hx hb dL_law_1541 ?_
  refine va_sld hx hb Z.2.2.1 Z.2.2.2 hbA hG.1.2.2 (lw_in h0 h6 hn (by decide)) dL_law_1542 ?_
  refine lv_aload_n hx hb dL_law_1543 rfl (lv_at hl 3 rfl) ?_
  refine lv_iload_n hx hb dL_law_1544 rfl (lv_at hl 0 rfl) ?_
  refine lv_iconst (v := (4 : Int32)) hx hb dL_law_1545 (by decide) ?_
  refine lv_iadd hx hb dL_law_1546 ?_
  refine va_sld hx hb Z.2.2.1 Z.2.2.2 hbA hG.1.2.2 (lw_in h0 h6 hn (by decide)) dL_law_1547 ?_
  refine t_ViG C hO hl.1 (fun _ h => h) hG hX.1 (As := [.int (sc (i + (1 : Int32)).toNatClampNeg), .int (sc (i + (2 : Int32)).toNatClampNeg), .int (sc (i + (3 : Int32)).toNatClampNeg), .int (sc (i + (4 : Int32)).toNatClampNeg)]) (rest := []) (t_X9_has l E J τ L f hX.1 hX.2.1 hX.2.2.1 (sc (i + (1 : Int32)).toNatClampNeg) (sc (i + (2 : Int32)).toNatClampNeg) (sc (i + (3 : Int32)).toNatClampNeg) (sc (i + (4 : Int32)).toNatClampNeg)) my_X9_has wd1657 hX.2.1 hX.2.2.1 td_0 rfl rfl rfl (Nat.le_of_ble_eq_true rfl) ⟨(Nat.le_of_ble_eq_true rfl), (Nat.le_of_ble_eq_true rfl)⟩ ⟨rfl, rfl⟩ ⟨hc, hs⟩ dL_law_1548 (fun r1 L1 f1 H locs hp hG => ?_)
  obtain ⟨rfl, s1, h1⟩ := hp
  have hX0_ := hX
  have hX := hX.S s1
  have hG := hG.swap
  refine lv_pop hx hb dL_law_1551 rfl ?_
  refine lv_aload_n hx hb dL_law_1552 rfl (lv_at hl 1 rfl) ?_
  refine lv_aload_n hx hb dL_law_1553 rfl (lv_at hl 3 rfl) ?_
  refine lv_iload_n hx hb dL_law_1554 rfl (lv_at hl 0 rfl) ?_
  refine lv_iconst (v := (1 : Int32)) hx hb dL_law_1555 (by decide) ?_
  refine lv_iadd hx hb dL_law_1556 ?_
  refine va_sld hx hb Z.2.2.1 Z.2.2.2 hbA hG.1.2.2 (lw_in h0 h6 hn (by decide)) dL_law_1557 ?_
  refine lv_aload_n hx hb dL_law_1558 rfl (lv_at hl 3 rfl) ?_
  refine lv_iload_n hx hb dL_law_1559 rfl (lv_at hl 0 rfl) ?_
  refine lv_iconst (v := (2 : Int32)) hx hb dL_law_1560 (by decide) ?_
  refine lv_iadd hx hb dL_law_1561 ?_
  refine va_sld hx hb Z.2.2.1 Z.2.2.2 hbA hG.1.2.2 (lw_in h0 h6 hn (by decide)) dL_law_1562 ?_
  refine lv_aload_n hx hb dL_law_1563 rfl (lv_at hl 3 rfl) ?_
  refine lv_iload_n hx hb dL_law_1564 rfl (lv_at hl 0 rfl) ?_
  refine lv_iconst (v := (3 : Int32)) hx hb dL_law_1565 (by decide) ?_
  refine lv_iadd hx hb dL_law_1566 ?_
  refine va_sld hx hb Z.2.2.1 Z.2.2.2 hbA hG.1.2.2 (lw_in h0 h6 hn (by decide)) dL_law_1567 ?_
  refine lv_aload_n hx hb dL_law_1568 rfl (lv_at hl 3 rfl) ?_
  refine lv_iload_n hx hb dL_law_1569 rfl (lv_at hl 0 rfl) ?_
  refine lv_iconst (v := (4 : Int32)) hx hb dL_law_1570 (by decide) ?_
  refine lv_iadd hx hb dL_law_1571 ?_
  refine va_sld hx hb Z.2.2.1 Z.2.2.2 hbA hG.1.2.2 (lw_in h0 h6 hn (by decide)) dL_law_1572 ?_
  obtain ⟨vl, vh, hl0, hh, hRR⟩ := id hY.2.2.2.2
  refine t_ViG C hO hl.1 (fun _ h => h) hG hY.1 (As := [.int (sc (i + (1 : Int32)).toNatClampNeg), .int (sc (i + (2 : Int32)).toNatClampNeg), .int (sc (i + (3 : Int32)).toNatClampNeg), .int (sc (i + (4 : Int32)).toNatClampNeg)]) (rest := []) (t_X10_has l E J σ K k hY.1 hY.2.1 hY.2.2.1 (sc (i + (1 : Int32)).toNatClampNeg) (sc (i + (2 : Int32)).toNatClampNeg) (sc (i + (3 : Int32)).toNatClampNeg) (sc (i + (4 : Int32)).toNatClampNeg) hl0 hh (hRR 0 (by decide))) my_X10_has wd1661 hY.2.1 hY.2.2.1 td_40 rfl rfl rfl (Nat.le_of_ble_eq_true rfl) ⟨(Nat.le_of_ble_eq_true rfl), (Nat.le_of_ble_eq_true rfl)⟩ ⟨rfl, rfl⟩ ⟨hc, hs⟩ dL_law_1573 (fun r2 K1 k1 H locs hp hG => ?_)
  obtain ⟨rfl, s2, h2⟩ := hp
  have hY := hY.S s2 rfl rfl
  have hG := hG.swap
  refine lv_pop hx hb dL_law_1576 rfl ?_
  refine lv_goto (tgt := 2118) hx hb dL_law_1577 (by decide) ?_
  exact kk _ _ _ _ _ hG hX hY (hD.S s1 s2 hX0_ rfl rfl rfl rfl) hl
set_option maxHeartbeats 4000000 in
set_option maxRecDepth 100000 in
theorem law_54 {p : Program} {l : Launch} {e : Env} {s : State} {m : MethodId} {below : List Frame} {meth : Method} {c : Code} {b n : Nat} {sc : Nat → Int32} {E : gE} {J : Nat → Nat} {L K : List Nat} {τ σ : Nat → Nat} {f k : gF} {x y : Nat} {H : Heap} {locs : List Loc} {cells slots : Nat} {ls : Array Slot} {i : Int32} (Z : gLw E p s m meth c b n sc) (hO : oW J (fun q : Nat => s.heap.size ≤ q) s s.heap) (hn : n ≤ 3072) (hc : cells ≤ 600000) (hs : slots ≤ 7302249) (h0 : 0 ≤ i.toInt) (h6 : i.toInt + 6 ≤ (n : Int)) (hG : gG E (fun q : Nat => s.heap.size ≤ q) L f K k s.heap H locs) (hX : iX E L τ f x) (hY : iY E K σ k y) (hD : rel E L τ f x K σ k) (hl : lv_has ls 4 [(3, .int i), (2, .ref y), (1, .ref x), (0, .ref b)]) (kk : lwK p l e s m below meth c b E L K τ σ x y cells slots i) : W p l e room_1 s m #[Value.ref b] below meth c H locs cells slots (lw_Z below #[Value.ref b] s) (F0 m 1580 ls []) := by
  have C := Z.1
  have hx := C.1
  have hb := C.2.1
  have hbA : ¬ (fun q : Nat => s.heap.size ≤ q) b := Nat.not_le.mpr Z.2.2.2
  obtain ⟨hJ, vw, vm, hw, hw0, hm0⟩ := id hD
  refine lv_aload_n hx hb dL_law_1580 rfl (lv_at hl 2 rfl) ?_
  refine lv_aload_n hx hb dL_law_1581 rfl (lv_at hl 3 rfl) ?_
  refine lv_iload_n hx hb dL_law_1582 rfl (lv_at hl 0 rfl) ?_
  refine lv_iconst (v := (1 : Int32)) hx hb dL_law_1583 (by decide) ?_
  refine lv_iadd hx hb dL_law_1584 ?_
  refine va_sld hx hb Z.2.2.1 Z.2.2.2 hbA hG.1.2.2 (lw_in h0 h6 hn (by decide)) dL_law_1585 ?_
  refine lv_aload_n hx hb dL_law_1586 rfl (lv_at hl 3 rfl) ?_
  refine lv_iload_n hx hb dL_law_1587 rfl (lv_at hl 0 rfl) ?_
  refine lv_iconst (v := (2 : Int32)) hx hb dL_law_1588 (by decide) ?_
  refine lv_iadd hx hb dL_law_1589 ?_
  refine va_sld hx hb Z.2.2.1 Z.2.2.2 hbA hG.1.2.2 (lw_in h0 h6 hn (by decide)) dL_law_1590 ?_
  refine t_ViG C hO hl.1 (fun _ h => h) hG hX.1 (As := [.int (sc (i + (1 : Int32)).toNatClampNeg), .int (sc (i + (2 : Int32)).toNatClampNeg)]) (rest := []) (t_X9_chance l E J τ L f hX.1 hX.2.1 hX.2.2.1 (sc (i + (1 : Int32)).toNatClampNeg) (sc (i + (2 : Int32)).toNatClampNeg)) my_X9_chance wd1665 hX.2.1 hX.2.2.1 td_0 rfl rfl rfl (Nat.le_of_ble_eq_true rfl) ⟨(Nat.le_of_ble_eq_true rfl), (Nat.le_of_ble_eq_true rfl)⟩ ⟨rfl, rfl⟩ ⟨hc, hs⟩ dL_law_1591 (fun r1 L1 f1 H locs hp hG => ?_)
  obtain ⟨rfl, s1, h1⟩ := hp
  have hX0_ := hX
  have hX := hX.S s1
  have hG := hG.swap
  refine lv_pop hx hb dL_law_1594 rfl ?_
  refine lv_aload_n hx hb dL_law_1595 rfl (lv_at hl 1 rfl) ?_
  refine lv_aload_n hx hb dL_law_1596 rfl (lv_at hl 3 rfl) ?_
  refine lv_iload_n hx hb dL_law_1597 rfl (lv_at hl 0 rfl) ?_
  refine lv_iconst (v := (1 : Int32)) hx hb dL_law_1598 (by decide) ?_
  refine lv_iadd hx hb dL_law_1599 ?_
  refine va_sld hx hb Z.2.2.1 Z.2.2.2 hbA hG.1.2.2 (lw_in h0 h6 hn (by decide)) dL_law_1600 ?_
  refine lv_aload_n hx hb dL_law_1601 rfl (lv_at hl 3 rfl) ?_
  refine lv_iload_n hx hb dL_law_1602 rfl (lv_at hl 0 rfl) ?_
  refine lv_iconst (v := (2 : Int32)) hx hb dL_law_1603 (by decide) ?_
  refine lv_iadd hx hb dL_law_1604 ?_
  refine va_sld hx hb Z.2.2.1 Z.2.2.2 hbA hG.1.2.2 (lw_in h0 h6 hn (by decide)) dL_law_1605 ?_
  obtain ⟨vl, vh, hl0, hh, hRR⟩ := id hY.2.2.2.2
  refine t_ViG C hO hl.1 (fun _ h => h) hG hY.1 (As := [.int (sc (i + (1 : Int32)).toNatClampNeg), .int (sc (i + (2 : Int32)).toNatClampNeg)]) (rest := []) (t_X10_chance l E J σ K k hY.1 hY.2.1 hY.2.2.1 (sc (i + (1 : Int32)).toNatClampNeg) (sc (i + (2 : Int32)).toNatClampNeg) hl0 hh (hRR 0 (by decide))) my_X10_chance wd1669 hY.2.1 hY.2.2.1 td_40 rfl rfl rfl (Nat.le_of_ble_eq_true rfl) ⟨(Nat.le_of_ble_eq_true rfl), (Nat.le_of_ble_eq_true rfl)⟩ ⟨rfl, rfl⟩ ⟨hc, hs⟩ dL_law_1606 (fun r2 K1 k1 H locs hp hG => ?_)
  obtain ⟨rfl, s2, h2⟩ := hp
  have hY := hY.S s2 rfl rfl
  have hG := hG.swap
  refine lv_pop hx hb dL_law_1609 rfl ?_
  refine lv_goto (tgt := 2118) hx hb dL_law_1610 (by decide) ?_
  exact kk _ _ _ _ _ hG hX hY (hD.S s1 s2 hX0_ rfl rfl rfl rfl) hl
set_option maxHeartbeats 4000000 in
set_option maxRecDepth 100000 in
theorem law_55 {p : Program} {l : Launch} {e : Env} {s : State} {m : MethodId} {below : List Frame} {meth : Method} {c : Code} {b n : Nat} {sc : Nat → Int32} {E : gE} {J : Nat → Nat} {L K : List Nat} {τ σ : Nat → Nat} {f k : gF} {x y : Nat} {H : Heap} {locs : List Loc} {cells slots : Nat} {ls : Array Slot} {i : Int32} (Z : gLw E p s m meth c b n sc) (hO : oW J (fun q : Nat => s.heap.size ≤ q) s s.heap) (hn : n ≤ 3072) (hc : cells ≤ 600000) (hs : slots ≤ 7302249) (h0 : 0 ≤ i.toInt) (h6 : i.toInt + 6 ≤ (n : Int)) (hG : gG E (fun q : Nat => s.heap.size ≤ q) L f K k s.heap H locs) (hX : iX E L τ f x) (hY : iY E K σ k y) (hD : rel E L τ f x K σ k) (hl : lv_has ls 4 [(3, .int i), (2, .ref y), (1, .ref x), (0, .ref b)]) (kk : lwK p l e s m below meth c b E L K τ σ x y cells slots i) : W p l e room_1 s m #[Value.ref b] below meth c H locs cells slots (lw_Z below #[Value.ref b] s) (F0 m 1613 ls []) := by
  have C := Z.1
  have hx := C.1
  have hb := C.2.1
  have hbA : ¬ (fun q : Nat => s.heap.size ≤ q) b := Nat.not_le.mpr Z.2.2.2
  obtain ⟨hJ, vw, vm, hw, hw0, hm0⟩ := id hD
  refine lv_aload_n hx hb dL_law_1613 rfl (lv_at hl 2 rfl) ?_
  refine lv_aload_n hx hb dL_law_1614 rfl (lv_at hl 3 rfl) ?_
  refine lv_iload_n hx hb dL_law_1615 rfl (lv_at hl 0 rfl) ?_
  refine lv_iconst (v := (1 : Int32)) hx hb dL_law_1616 (by decide) ?_
  refine lv_iadd hx hb dL_law_1617 ?_
  refine va_sld hx hb Z.2.2.1 Z.2.2.2 hbA hG.1.2.2 (lw_in h0 h6 hn (by decide)) dL_law_1618 ?_
  refine t_ViG C hO hl.1 (fun _ h => h) hG hX.1 (As := [.int (sc (i + (1 : Int32)).toNatClampNeg)]) (rest := []) (t_X9_mean l E J τ L f hX.1 hX.2.1 hX.2.2.1 (sc (i + (1 : Int32)).toNatClampNeg)) my_X9_mean wd1673 hX.2.1 hX.2.2.1 td_0 rfl rfl rfl (Nat.le_of_ble_eq_true rfl) ⟨(Nat.le_of_ble_eq_true rfl), (Nat.le_of_ble_eq_true rfl)⟩ ⟨rfl, rfl⟩ ⟨hc, hs⟩ dL_law_1619 (fun r1 L1 f1 H locs hp hG => ?_)
  obtain ⟨rfl, s1, h1⟩ := hp
  have hX0_ := hX
  have hX := hX.S s1
  have hG := hG.swap
  refine lv_pop hx hb dL_law_1622 rfl ?_
  refine lv_aload_n hx hb dL_law_1623 rfl (lv_at hl 1 rfl) ?_
  refine lv_aload_n hx hb dL_law_1624 rfl (lv_at hl 3 rfl) ?_
  refine lv_iload_n hx hb dL_law_1625 rfl (lv_at hl 0 rfl) ?_
  refine lv_iconst (v := (1 : Int32)) hx hb dL_law_1626 (by decide) ?_
  refine lv_iadd hx hb dL_law_1627 ?_
  refine va_sld hx hb Z.2.2.1 Z.2.2.2 hbA hG.1.2.2 (lw_in h0 h6 hn (by decide)) dL_law_1628 ?_
  obtain ⟨vl, vh, hl0, hh, hRR⟩ := id hY.2.2.2.2
  refine t_ViG C hO hl.1 (fun _ h => h) hG hY.1 (As := [.int (sc (i + (1 : Int32)).toNatClampNeg)]) (rest := []) (t_X10_mean l E J σ K k hY.1 hY.2.1 hY.2.2.1 (sc (i + (1 : Int32)).toNatClampNeg) hl0 hh (hRR 0 (by decide))) my_X10_mean wd1677 hY.2.1 hY.2.2.1 td_40 rfl rfl rfl (Nat.le_of_ble_eq_true rfl) ⟨(Nat.le_of_ble_eq_true rfl), (Nat.le_of_ble_eq_true rfl)⟩ ⟨rfl, rfl⟩ ⟨hc, hs⟩ dL_law_1629 (fun r2 K1 k1 H locs hp hG => ?_)
  obtain ⟨rfl, s2, h2⟩ := hp
  have hY := hY.S s2 rfl rfl
  have hG := hG.swap
  refine lv_pop hx hb dL_law_1632 rfl ?_
  refine lv_goto (tgt := 2118) hx hb dL_law_1633 (by decide) ?_
  exact kk _ _ _ _ _ hG hX hY (hD.S s1 s2 hX0_ rfl rfl rfl rfl) hl
