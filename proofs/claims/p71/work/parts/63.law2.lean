set_option maxHeartbeats 4000000 in
set_option maxRecDepth 100000 in
theorem law_28 {p : Program} {l : Launch} {e : Env} {s : State} {m : MethodId} {below : List Frame} {meth : Method} {c : Code} {b n : Nat} {sc : Nat → Int32} {E : gE} {J : Nat → Nat} {L K : List Nat} {τ σ : Nat → Nat} {f k : gF} {x y : Nat} {H : Heap} {locs : List Loc} {cells slots : Nat} {ls : Array Slot} {i : Int32} (Z : gLw E p s m meth c b n sc) (hO : oW J (fun q : Nat => s.heap.size ≤ q) s s.heap) (hn : n ≤ 3072) (hc : cells ≤ 600000) (hs : slots ≤ 7302249) (h0 : 0 ≤ i.toInt) (h6 : i.toInt + 6 ≤ (n : Int)) (hG : gG E (fun q : Nat => s.heap.size ≤ q) L f K k s.heap H locs) (hX : iX E L τ f x) (hY : iY E K σ k y) (hD : rel E L τ f x K σ k) (hl : lv_has ls 4 [(3, .int i), (2, .ref y), (1, .ref x), (0, .ref b)]) (kk : lwK p l e s m below meth c b E L K τ σ x y cells slots i) : W p l e room_1 s m #[Value.ref b] below meth c H locs cells slots (lw_Z below #[Value.ref b] s) (F0 m 972 ls []) := by
  have C := Z.1
  have hx := C.1
  have hb := C.2.1
  have hbA : ¬ (fun q : Nat => s.heap.size ≤ q) b := Nat.not_le.mpr Z.2.2.2
  obtain ⟨hJ, vw, vm, hw, hw0, hm0⟩ := id hD
  refine lv_aload_n hx hb dL_law_972 rfl (lv_at hl 2 rfl) ?_
  refine lv_aload_n hx hb dL_law_973 rfl (lv_at hl 3 rfl) ?_
  refine lv_iload_n hx hb dL_law_974 rfl (lv_at hl 0 rfl) ?_
  refine lv_iconst (v := (1 : Int32)) hx hb dL_law_975 (by decide) ?_
  refine lv_iadd hx hb dL_law_976 ?_
  refine va_sld hx hb Z.2.2.1 Z.2.2.2 hbA hG.1.2.2 (lw_in h0 h6 hn (by decide)) dL_law_977 ?_
  refine t_ViG C hO hl.1 (fun _ h => h) hG hX.1 (As := [.int (sc (i + (1 : Int32)).toNatClampNeg)]) (rest := []) (t_X9_calls l E J τ L f hX.1 hX.2.1 hX.2.2.1 (sc (i + (1 : Int32)).toNatClampNeg)) my_X9_calls wd1457 hX.2.1 hX.2.2.1 td_0 rfl rfl rfl (Nat.le_of_ble_eq_true rfl) ⟨(Nat.le_of_ble_eq_true rfl), (Nat.le_of_ble_eq_true rfl)⟩ ⟨rfl, rfl⟩ ⟨hc, hs⟩ dL_law_978 (fun r1 L1 f1 H locs hp hG => ?_)
  obtain ⟨rfl, s1, h1⟩ := hp
  have hX0_ := hX
  have hX := hX.S s1
  have hG := hG.swap
  refine lv_pop hx hb dL_law_981 rfl ?_
  refine lv_aload_n hx hb dL_law_982 rfl (lv_at hl 1 rfl) ?_
  refine lv_aload_n hx hb dL_law_983 rfl (lv_at hl 3 rfl) ?_
  refine lv_iload_n hx hb dL_law_984 rfl (lv_at hl 0 rfl) ?_
  refine lv_iconst (v := (1 : Int32)) hx hb dL_law_985 (by decide) ?_
  refine lv_iadd hx hb dL_law_986 ?_
  refine va_sld hx hb Z.2.2.1 Z.2.2.2 hbA hG.1.2.2 (lw_in h0 h6 hn (by decide)) dL_law_987 ?_
  obtain ⟨vl, vh, hl0, hh, hRR⟩ := id hY.2.2.2.2
  refine t_ViG C hO hl.1 (fun _ h => h) hG hY.1 (As := [.int (sc (i + (1 : Int32)).toNatClampNeg)]) (rest := []) (t_X10_calls l E J σ K k hY.1 hY.2.1 hY.2.2.1 (sc (i + (1 : Int32)).toNatClampNeg) hl0 hh (hRR 0 (by decide))) my_X10_calls wd1461 hY.2.1 hY.2.2.1 td_40 rfl rfl rfl (Nat.le_of_ble_eq_true rfl) ⟨(Nat.le_of_ble_eq_true rfl), (Nat.le_of_ble_eq_true rfl)⟩ ⟨rfl, rfl⟩ ⟨hc, hs⟩ dL_law_988 (fun r2 K1 k1 H locs hp hG => ?_)
  obtain ⟨rfl, s2, h2⟩ := hp
  have hY := hY.S s2 rfl rfl
  have hG := hG.swap
  refine lv_pop hx hb dL_law_991 rfl ?_
  refine lv_goto (tgt := 2118) hx hb dL_law_992 (by decide) ?_
  exact kk _ _ _ _ _ hG hX hY (hD.S s1 s2 hX0_ rfl rfl rfl rfl) hl
set_option maxHeartbeats 4000000 in
set_option maxRecDepth 100000 in
theorem law_29 {p : Program} {l : Launch} {e : Env} {s : State} {m : MethodId} {below : List Frame} {meth : Method} {c : Code} {b n : Nat} {sc : Nat → Int32} {E : gE} {J : Nat → Nat} {L K : List Nat} {τ σ : Nat → Nat} {f k : gF} {x y : Nat} {H : Heap} {locs : List Loc} {cells slots : Nat} {ls : Array Slot} {i : Int32} (Z : gLw E p s m meth c b n sc) (hO : oW J (fun q : Nat => s.heap.size ≤ q) s s.heap) (hn : n ≤ 3072) (hc : cells ≤ 600000) (hs : slots ≤ 7302249) (h0 : 0 ≤ i.toInt) (h6 : i.toInt + 6 ≤ (n : Int)) (hG : gG E (fun q : Nat => s.heap.size ≤ q) L f K k s.heap H locs) (hX : iX E L τ f x) (hY : iY E K σ k y) (hD : rel E L τ f x K σ k) (hl : lv_has ls 4 [(3, .int i), (2, .ref y), (1, .ref x), (0, .ref b)]) (kk : lwK p l e s m below meth c b E L K τ σ x y cells slots i) : W p l e room_1 s m #[Value.ref b] below meth c H locs cells slots (lw_Z below #[Value.ref b] s) (F0 m 995 ls []) := by
  have C := Z.1
  have hx := C.1
  have hb := C.2.1
  have hbA : ¬ (fun q : Nat => s.heap.size ≤ q) b := Nat.not_le.mpr Z.2.2.2
  obtain ⟨hJ, vw, vm, hw, hw0, hm0⟩ := id hD
  refine lv_aload_n hx hb dL_law_995 rfl (lv_at hl 2 rfl) ?_
  refine lv_aload_n hx hb dL_law_996 rfl (lv_at hl 3 rfl) ?_
  refine lv_iload_n hx hb dL_law_997 rfl (lv_at hl 0 rfl) ?_
  refine lv_iconst (v := (1 : Int32)) hx hb dL_law_998 (by decide) ?_
  refine lv_iadd hx hb dL_law_999 ?_
  refine va_sld hx hb Z.2.2.1 Z.2.2.2 hbA hG.1.2.2 (lw_in h0 h6 hn (by decide)) dL_law_1000 ?_
  refine t_ViG C hO hl.1 (fun _ h => h) hG hX.1 (As := [.int (sc (i + (1 : Int32)).toNatClampNeg)]) (rest := []) (t_X9_farthest l E J τ L f hX.1 hX.2.1 hX.2.2.1 (sc (i + (1 : Int32)).toNatClampNeg)) my_X9_farthest wd1465 hX.2.1 hX.2.2.1 td_0 rfl rfl rfl (Nat.le_of_ble_eq_true rfl) ⟨(Nat.le_of_ble_eq_true rfl), (Nat.le_of_ble_eq_true rfl)⟩ ⟨rfl, rfl⟩ ⟨hc, hs⟩ dL_law_1001 (fun r1 L1 f1 H locs hp hG => ?_)
  obtain ⟨rfl, s1, h1⟩ := hp
  have hX0_ := hX
  have hX := hX.S s1
  have hG := hG.swap
  refine lv_pop hx hb dL_law_1004 rfl ?_
  refine lv_aload_n hx hb dL_law_1005 rfl (lv_at hl 1 rfl) ?_
  refine lv_aload_n hx hb dL_law_1006 rfl (lv_at hl 3 rfl) ?_
  refine lv_iload_n hx hb dL_law_1007 rfl (lv_at hl 0 rfl) ?_
  refine lv_iconst (v := (1 : Int32)) hx hb dL_law_1008 (by decide) ?_
  refine lv_iadd hx hb dL_law_1009 ?_
  refine va_sld hx hb Z.2.2.1 Z.2.2.2 hbA hG.1.2.2 (lw_in h0 h6 hn (by decide)) dL_law_1010 ?_
  obtain ⟨vl, vh, hl0, hh, hRR⟩ := id hY.2.2.2.2
  refine t_ViG C hO hl.1 (fun _ h => h) hG hY.1 (As := [.int (sc (i + (1 : Int32)).toNatClampNeg)]) (rest := []) (t_X10_farthest l E J σ K k hY.1 hY.2.1 hY.2.2.1 (sc (i + (1 : Int32)).toNatClampNeg) hl0 hh (hRR 0 (by decide))) my_X10_farthest wd1469 hY.2.1 hY.2.2.1 td_40 rfl rfl rfl (Nat.le_of_ble_eq_true rfl) ⟨(Nat.le_of_ble_eq_true rfl), (Nat.le_of_ble_eq_true rfl)⟩ ⟨rfl, rfl⟩ ⟨hc, hs⟩ dL_law_1011 (fun r2 K1 k1 H locs hp hG => ?_)
  obtain ⟨rfl, s2, h2⟩ := hp
  have hY := hY.S s2 rfl rfl
  have hG := hG.swap
  refine lv_pop hx hb dL_law_1014 rfl ?_
  refine lv_goto (tgt := 2118) hx hb dL_law_1015 (by decide) ?_
  exact kk _ _ _ _ _ hG hX hY (hD.S s1 s2 hX0_ rfl rfl rfl rfl) hl
set_option maxHeartbeats 4000000 in
set_option maxRecDepth 100000 in
theorem law_30 {p : Program} {l : Launch} {e : Env} {s : State} {m : MethodId} {below : List Frame} {meth : Method} {c : Code} {b n : Nat} {sc : Nat → Int32} {E : gE} {J : Nat → Nat} {L K : List Nat} {τ σ : Nat → Nat} {f k : gF} {x y : Nat} {H : Heap} {locs : List Loc} {cells slots : Nat} {ls : Array Slot} {i : Int32} (Z : gLw E p s m meth c b n sc) (hO : oW J (fun q : Nat => s.heap.size ≤ q) s s.heap) (hn : n ≤ 3072) (hc : cells ≤ 600000) (hs : slots ≤ 7302249) (h0 : 0 ≤ i.toInt) (h6 : i.toInt + 6 ≤ (n : Int)) (hG : gG E (fun q : Nat => s.heap.size ≤ q) L f K k s.heap H locs) (hX : iX E L τ f x) (hY : iY E K σ k y) (hD : rel E L τ f x K σ k) (hl : lv_has ls 4 [(3, .int i), (2, .ref y), (1, .ref x), (0, .ref b)]) (kk : lwK p l e s m below meth c b E L K τ σ x y cells slots i) : W p l e room_1 s m #[Value.ref b] below meth c H locs cells slots (lw_Z below #[Value.ref b] s) (F0 m 1018 ls []) := by
  have C := Z.1
  have hx := C.1
  have hb := C.2.1
  have hbA : ¬ (fun q : Nat => s.heap.size ≤ q) b := Nat.not_le.mpr Z.2.2.2
  obtain ⟨hJ, vw, vm, hw, hw0, hm0⟩ := id hD
  refine lv_aload_n hx hb dL_law_1018 rfl (lv_at hl 2 rfl) ?_
  refine lv_aload_n hx hb dL_law_1019 rfl (lv_at hl 3 rfl) ?_
  refine lv_iload_n hx hb dL_law_1020 rfl (lv_at hl 0 rfl) ?_
  refine lv_iconst (v := (1 : Int32)) hx hb dL_law_1021 (by decide) ?_
  refine lv_iadd hx hb dL_law_1022 ?_
  refine va_sld hx hb Z.2.2.1 Z.2.2.2 hbA hG.1.2.2 (lw_in h0 h6 hn (by decide)) dL_law_1023 ?_
  refine t_ViG C hO hl.1 (fun _ h => h) hG hX.1 (As := [.int (sc (i + (1 : Int32)).toNatClampNeg)]) (rest := []) (t_X9_fewest l E J τ L f hX.1 hX.2.1 hX.2.2.1 (sc (i + (1 : Int32)).toNatClampNeg)) my_X9_fewest wd1473 hX.2.1 hX.2.2.1 td_0 rfl rfl rfl (Nat.le_of_ble_eq_true rfl) ⟨(Nat.le_of_ble_eq_true rfl), (Nat.le_of_ble_eq_true rfl)⟩ ⟨rfl, rfl⟩ ⟨hc, hs⟩ dL_law_1024 (fun r1 L1 f1 H locs hp hG => ?_)
  obtain ⟨rfl, s1, h1⟩ := hp
  have hX0_ := hX
  have hX := hX.S s1
  have hG := hG.swap
  refine lv_pop hx hb dL_law_1027 rfl ?_
  refine lv_aload_n hx hb dL_law_1028 rfl (lv_at hl 1 rfl) ?_
  refine lv_aload_n hx hb dL_law_1029 rfl (lv_at hl 3 rfl) ?_
  refine lv_iload_n hx hb dL_law_1030 rfl (lv_at hl 0 rfl) ?_
  refine lv_iconst (v := (1 : Int32)) hx hb dL_law_1031 (by decide) ?_
  refine lv_iadd hx hb dL_law_1032 ?_
  refine va_sld hx hb Z.2.2.1 Z.2.2.2 hbA hG.1.2.2 (lw_in h0 h6 hn (by decide)) dL_law_1033 ?_
  obtain ⟨vl, vh, hl0, hh, hRR⟩ := id hY.2.2.2.2
  refine t_ViG C hO hl.1 (fun _ h => h) hG hY.1 (As := [.int (sc (i + (1 : Int32)).toNatClampNeg)]) (rest := []) (t_X10_fewest l E J σ K k hY.1 hY.2.1 hY.2.2.1 (sc (i + (1 : Int32)).toNatClampNeg) hl0 hh (hRR 0 (by decide))) my_X10_fewest wd1477 hY.2.1 hY.2.2.1 td_40 rfl rfl rfl (Nat.le_of_ble_eq_true rfl) ⟨(Nat.le_of_ble_eq_true rfl), (Nat.le_of_ble_eq_true rfl)⟩ ⟨rfl, rfl⟩ ⟨hc, hs⟩ dL_law_1034 (fun r2 K1 k1 H locs hp hG => ?_)
  obtain ⟨rfl, s2, h2⟩ := hp
  have hY := hY.S s2 rfl rfl
  have hG := hG.swap
  refine lv_pop hx hb dL_law_1037 rfl ?_
  refine lv_goto (tgt := 2118) hx hb dL_law_1038 (by decide) ?_
  exact kk _ _ _ _ _ hG hX hY (hD.S s1 s2 hX0_ rfl rfl rfl rfl) hl
set_option maxHeartbeats 4000000 in
set_option maxRecDepth 100000 in
theorem law_31 {p : Program} {l : Launch} {e : Env} {s : State} {m : MethodId} {below : List Frame} {meth : Method} {c : Code} {b n : Nat} {sc : Nat → Int32} {E : gE} {J : Nat → Nat} {L K : List Nat} {τ σ : Nat → Nat} {f k : gF} {x y : Nat} {H : Heap} {locs : List Loc} {cells slots : Nat} {ls : Array Slot} {i : Int32} (Z : gLw E p s m meth c b n sc) (hO : oW J (fun q : Nat => s.heap.size ≤ q) s s.heap) (hn : n ≤ 3072) (hc : cells ≤ 600000) (hs : slots ≤ 7302249) (h0 : 0 ≤ i.toInt) (h6 : i.toInt + 6 ≤ (n : Int)) (hG : gG E (fun q : Nat => s.heap.size ≤ q) L f K k s.heap H locs) (hX : iX E L τ f x) (hY : iY E K σ k y) (hD : rel E L τ f x K σ k) (hl : lv_has ls 4 [(3, .int i), (2, .ref y), (1, .ref x), (0, .ref b)]) (kk : lwK p l e s m below meth c b E L K τ σ x y cells slots i) : W p l e room_1 s m #[Value.ref b] below meth c H locs cells slots (lw_Z below #[Value.ref b] s) (F0 m 1041 ls []) := by
  have C := Z.1
  have hx := C.1
  have hb := C.2.1
  have hbA : ¬ (fun q : Nat => s.heap.size ≤ q) b := Nat.not_le.mpr Z.2.2.2
  obtain ⟨hJ, vw, vm, hw, hw0, hm0⟩ := id hD
  refine lv_aload_n hx hb dL_law_1041 rfl (lv_at hl 2 rfl) ?_
  refine lv_aload_n hx hb dL_law_1042 rfl (lv_at hl 3 rfl) ?_
  refine lv_iload_n hx hb dL_law_1043 rfl (lv_at hl 0 rfl) ?_
  refine lv_iconst (v := (1 : Int32)) hx hb dL_law_1044 (by decide) ?_
  refine lv_iadd hx hb dL_law_1045 ?_
  refine va_sld hx hb Z.2.2.1 Z.2.2.2 hbA hG.1.2.2 (lw_in h0 h6 hn (by decide)) dL_law_1046 ?_
  refine t_ViG C hO hl.1 (fun _ h => h) hG hX.1 (As := [.int (sc (i + (1 : Int32)).toNatClampNeg)]) (rest := []) (t_X9_lights l E J τ L f hX.1 hX.2.1 hX.2.2.1 (sc (i + (1 : Int32)).toNatClampNeg)) my_X9_lights wd1481 hX.2.1 hX.2.2.1 td_0 rfl rfl rfl (Nat.le_of_ble_eq_true rfl) ⟨(Nat.le_of_ble_eq_true rfl), (Nat.le_of_ble_eq_true rfl)⟩ ⟨rfl, rfl⟩ ⟨hc, hs⟩ dL_law_1047 (fun r1 L1 f1 H locs hp hG => ?_)
  obtain ⟨rfl, s1, h1⟩ := hp
  have hX0_ := hX
  have hX := hX.S s1
  have hG := hG.swap
  refine lv_pop hx hb dL_law_1050 rfl ?_
  refine lv_aload_n hx hb dL_law_1051 rfl (lv_at hl 1 rfl) ?_
  refine lv_aload_n hx hb dL_law_1052 rfl (lv_at hl 3 rfl) ?_
  refine lv_iload_n hx hb dL_law_1053 rfl (lv_at hl 0 rfl) ?_
  refine lv_iconst (v := (1 : Int32)) hx hb dL_law_1054 (by decide) ?_
  refine lv_iadd hx hb dL_law_1055 ?_
  refine va_sld hx hb Z.2.2.1 Z.2.2.2 hbA hG.1.2.2 (lw_in h0 h6 hn (by decide)) dL_law_1056 ?_
  obtain ⟨vl, vh, hl0, hh, hRR⟩ := id hY.2.2.2.2
  refine t_ViG C hO hl.1 (fun _ h => h) hG hY.1 (As := [.int (sc (i + (1 : Int32)).toNatClampNeg)]) (rest := []) (t_X10_lights l E J σ K k hY.1 hY.2.1 hY.2.2.1 (sc (i + (1 : Int32)).toNatClampNeg) hl0 hh (hRR 0 (by decide))) my_X10_lights wd1485 hY.2.1 hY.2.2.1 td_40 rfl rfl rfl (Nat.le_of_ble_eq_true rfl) ⟨(Nat.le_of_ble_eq_true rfl), (Nat.le_of_ble_eq_true rfl)⟩ ⟨rfl, rfl⟩ ⟨hc, hs⟩ dL_law_1057 (fun r2 K1 k1 H locs hp hG => ?_)
  obtain ⟨rfl, s2, h2⟩ := hp
  have hY := hY.S s2 rfl rfl
  have hG := hG.swap
  refine lv_pop hx hb dL_law_1060 rfl ?_
  refine lv_goto (tgt := 2118) hx hb dL_law_1061 (by decide) ?_
  exact kk _ _ _ _ _ hG hX hY (hD.S s1 s2 hX0_ rfl rfl rfl rfl) hl
set_option maxHeartbeats 4000000 in
set_option maxRecDepth 100000 in
theorem law_32 {p : Program} {l : Launch} {e : Env} {s : State} {m : MethodId} {below : List Frame} {meth : Method} {c : Code} {b n : Nat} {sc : Nat → Int32} {E : gE} {J : Nat → Nat} {L K : List Nat} {τ σ : Nat → Nat} {f k : gF} {x y : Nat} {H : Heap} {locs : List Loc} {cells slots : Nat} {ls : Array Slot} {i : Int32} (Z : gLw E p s m meth c b n sc) (hO : oW J (fun q : Nat => s.heap.size ≤ q) s s.heap) (hn : n ≤ 3072) (hc : cells ≤ 600000) (hs : slots ≤ 7302249) (h0 : 0 ≤ i.toInt) (h6 : i.toInt + 6 ≤ (n : Int)) (hG : gG E (fun q : Nat => s.heap.size ≤ q) L f K k s.heap H locs) (hX : iX E L τ f x) (hY : iY E K σ k y) (hD : rel E L τ f x K σ k) (hl : lv_has ls 4 [(3, .int i), (2, .ref y), (1, .ref x), (0, .ref b)]) (kk : lwK p l e s m below meth c b E L K τ σ x y cells slots i) : W p l e room_1 s m #[Value.ref b] below meth c H locs cells slots (lw_Z below #[Value.ref b] s) (F0 m 1064 ls []) := by
  have C := Z.1
  have hx := C.1
  have hb := C.2.1
  have hbA : ¬ (fun q : Nat => s.heap.size ≤ q) b := Nat.not_le.mpr Z.2.2.2
  obtain ⟨hJ, vw, vm, hw, hw0, hm0⟩ := id hD
  refine lv_aload_n hx hb dL_law_1064 rfl (lv_at hl 2 rfl) ?_
  refine lv_aload_n hx hb dL_law_1065 rfl (lv_at hl 3 rfl) ?_
  refine lv_iload_n hx hb dL_law_1066 rfl (lv_at hl 0 rfl) ?_
  refine lv_iconst (v := (1 : Int32)) hx hb dL_law_1067 (by decide) ?_
  refine lv_iadd hx hb dL_law_1068 ?_
  refine va_sld hx hb Z.2.2.1 Z.2.2.2 hbA hG.1.2.2 (lw_in h0 h6 hn (by decide)) dL_law_1069 ?_
  refine t_ViG C hO hl.1 (fun _ h => h) hG hX.1 (As := [.int (sc (i + (1 : Int32)).toNatClampNeg)]) (rest := []) (t_X9_best l E J τ L f hX.1 hX.2.1 hX.2.2.1 (sc (i + (1 : Int32)).toNatClampNeg)) my_X9_best wd1489 hX.2.1 hX.2.2.1 td_0 rfl rfl rfl (Nat.le_of_ble_eq_true rfl) ⟨(Nat.le_of_ble_eq_true rfl), (Nat.le_of_ble_eq_true rfl)⟩ ⟨rfl, rfl⟩ ⟨hc, hs⟩ dL_law_1070 (fun r1 L1 f1 H locs hp hG => ?_)
  obtain ⟨rfl, s1, h1⟩ := hp
  have hX0_ := hX
  have hX := hX.S s1
  have hG := hG.swap
  refine lv_pop hx hb dL_law_1073 rfl ?_
  refine lv_aload_n hx hb dL_law_1074 rfl (lv_at hl 1 rfl) ?_
  refine lv_aload_n hx hb dL_law_1075 rfl (lv_at hl 3 rfl) ?_
  refine lv_iload_n hx hb dL_law_1076 rfl (lv_at hl 0 rfl) ?_
  refine lv_iconst (v := (1 : Int32)) hx hb dL_law_1077 (by decide) ?_
  refine lv_iadd hx hb dL_law_1078 ?_
  refine va_sld hx hb Z.2.2.1 Z.2.2.2 hbA hG.1.2.2 (lw_in h0 h6 hn (by decide)) dL_law_1079 ?_
  obtain ⟨vl, vh, hl0, hh, hRR⟩ := id hY.2.2.2.2
  refine t_ViG C hO hl.1 (fun _ h => h) hG hY.1 (As := [.int (sc (i + (1 : Int32)).toNatClampNeg)]) (rest := []) (t_X10_best l E J σ K k hY.1 hY.2.1 hY.2.2.1 (sc (i + (1 : Int32)).toNatClampNeg) hl0 hh (hRR 0 (by decide))) my_X10_best wd1493 hY.2.1 hY.2.2.1 td_40 rfl rfl rfl (Nat.le_of_ble_eq_true rfl) ⟨(Nat.le_of_ble_eq_true rfl), (Nat.le_of_ble_eq_true rfl)⟩ ⟨rfl, rfl⟩ ⟨hc, hs⟩ dL_law_1080 (fun r2 K1 k1 H locs hp hG => ?_)
  obtain ⟨rfl, s2, h2⟩ := hp
  have hY := hY.S s2 rfl rfl
  have hG := hG.swap
  refine lv_pop hx hb dL_law_1083 rfl ?_
  refine lv_goto (tgt := 2118) hx hb dL_law_1084 (by decide) ?_
  exact kk _ _ _ _ _ hG hX hY (hD.S s1 s2 hX0_ rfl rfl rfl rfl) hl
set_option maxHeartbeats 4000000 in
set_option maxRecDepth 100000 in
theorem law_33 {p : Program} {l : Launch} {e : Env} {s : State} {m : MethodId} {below : List Frame} {meth : Method} {c : Code} {b n : Nat} {sc : Nat → Int32} {E : gE} {J : Nat → Nat} {L K : List Nat} {τ σ : Nat → Nat} {f k : gF} {x y : Nat} {H : Heap} {locs : List Loc} {cells slots : Nat} {ls : Array Slot} {i : Int32} (Z : gLw E p s m meth c b n sc) (hO : oW J (fun q : Nat => s.heap.size ≤ q) s s.heap) (hn : n ≤ 3072) (hc : cells ≤ 600000) (hs : slots ≤ 7302249) (h0 : 0 ≤ i.toInt) (h6 : i.toInt + 6 ≤ (n : Int)) (hG : gG E (fun q : Nat => s.heap.size ≤ q) L f K k s.heap H locs) (hX : iX E L τ f x) (hY : iY E K σ k y) (hD : rel E L τ f x K σ k) (hl : lv_has ls 4 [(3, .int i), (2, .ref y), (1, .ref x), (0, .ref b)]) (kk : lwK p l e s m below meth c b E L K τ σ x y cells slots i) : W p l e room_1 s m #[Value.ref b] below meth c H locs cells slots (lw_Z below #[Value.ref b] s) (F0 m 1087 ls []) := by
  have C := Z.1
  have hx := C.1
  have hb := C.2.1
  have hbA : ¬ (fun q : Nat => s.heap.size ≤ q) b := Nat.not_le.mpr Z.2.2.2
  obtain ⟨hJ, vw, vm, hw, hw0, hm0⟩ := id hD
  refine lv_aload_n hx hb dL_law_1087 rfl (lv_at hl 2 rfl) ?_
  refine lv_aload_n hx hb dL_law_1088 rfl (lv_at hl 3 rfl) ?_
  refine lv_iload_n hx hb dL_law_1089 rfl (lv_at hl 0 rfl) ?_
  refine lv_iconst (v := (1 : Int32)) hx hb dL_law_1090 (by decide) ?_
  refine lv_iadd hx hb dL_law_1091 ?_
  refine va_sld hx hb Z.2.2.1 Z.2.2.2 hbA hG.1.2.2 (lw_in h0 h6 hn (by decide)) dL_law_1092 ?_
  refine t_ViG C hO hl.1 (fun _ h => h) hG hX.1 (As := [.int (sc (i + (1 : Int32)).toNatClampNeg)]) (rest := []) (t_X9_bests l E J τ L f hX.1 hX.2.1 hX.2.2.1 (sc (i + (1 : Int32)).toNatClampNeg)) my_X9_bests wd1497 hX.2.1 hX.2.2.1 td_0 rfl rfl rfl (Nat.le_of_ble_eq_true rfl) ⟨(Nat.le_of_ble_eq_true rfl), (Nat.le_of_ble_eq_true rfl)⟩ ⟨rfl, rfl⟩ ⟨hc, hs⟩ dL_law_1093 (fun r1 L1 f1 H locs hp hG => ?_)
  obtain ⟨rfl, s1, h1⟩ := hp
  have hX0_ := hX
  have hX := hX.S s1
  have hG := hG.swap
  refine lv_pop hx hb dL_law_1096 rfl ?_
  refine lv_aload_n hx hb dL_law_1097 rfl (lv_at hl 1 rfl) ?_
  refine lv_aload_n hx hb dL_law_1098 rfl (lv_at hl 3 rfl) ?_
  refine lv_iload_n hx hb dL_law_1099 rfl (lv_at hl 0 rfl) ?_
  refine lv_iconst (v := (1 : Int32)) hx hb dL_law_1100 (by decide) ?_
  refine lv_iadd hx hb dL_law_1101 ?_
  refine va_sld hx hb Z.2.2.1 Z.2.2.2 hbA hG.1.2.2 (lw_in h0 h6 hn (by decide)) dL_law_1102 ?_
  obtain ⟨vl, vh, hl0, hh, hRR⟩ := id hY.2.2.2.2
  refine t_ViG C hO hl.1 (fun _ h => h) hG hY.1 (As := [.int (sc (i + (1 : Int32)).toNatClampNeg)]) (rest := []) (t_X10_bests l E J σ K k hY.1 hY.2.1 hY.2.2.1 (sc (i + (1 : Int32)).toNatClampNeg) hl0 hh (hRR 0 (by decide))) my_X10_bests wd1501 hY.2.1 hY.2.2.1 td_40 rfl rfl rfl (Nat.le_of_ble_eq_true rfl) ⟨(Nat.le_of_ble_eq_true rfl), (Nat.le_of_ble_eq_true rfl)⟩ ⟨rfl, rfl⟩ ⟨hc, hs⟩ dL_law_1103 (fun r2 K1 k1 H locs hp hG => ?_)
  obtain ⟨rfl, s2, h2⟩ := hp
  have hY := hY.S s2 rfl rfl
  have hG := hG.swap
  refine lv_pop hx hb dL_law_1106 rfl ?_
  refine lv_goto (tgt := 2118) hx hb dL_law_1107 (by decide) ?_
  exact kk _ _ _ _ _ hG hX hY (hD.S s1 s2 hX0_ rfl rfl rfl rfl) hl
set_option maxHeartbeats 4000000 in
set_option maxRecDepth 100000 in
theorem law_34 {p : Program} {l : Launch} {e : Env} {s : State} {m : MethodId} {below : List Frame} {meth : Method} {c : Code} {b n : Nat} {sc : Nat → Int32} {E : gE} {J : Nat → Nat} {L K : List Nat} {τ σ : Nat → Nat} {f k : gF} {x y : Nat} {H : Heap} {locs : List Loc} {cells slots : Nat} {ls : Array Slot} {i : Int32} (Z : gLw E p s m meth c b n sc) (hO : oW J (fun q : Nat => s.heap.size ≤ q) s s.heap) (hn : n ≤ 3072) (hc : cells ≤ 600000) (hs : slots ≤ 7302249) (h0 : 0 ≤ i.toInt) (h6 : i.toInt + 6 ≤ (n : Int)) (hG : gG E (fun q : Nat => s.heap.size ≤ q) L f K k s.heap H locs) (hX : iX E L τ f x) (hY : iY E K σ k y) (hD : rel E L τ f x K σ k) (hl : lv_has ls 4 [(3, .int i), (2, .ref y), (1, .ref x), (0, .ref b)]) (kk : lwK p l e s m below meth c b E L K τ σ x y cells slots i) : W p l e room_1 s m #[Value.ref b] below meth c H locs cells slots (lw_Z below #[Value.ref b] s) (F0 m 1110 ls []) := by
  have C := Z.1
  have hx := C.1
  have hb := C.2.1
  have hbA : ¬ (fun q : Nat => s.heap.size ≤ q) b := Nat.not_le.mpr Z.2.2.2
  obtain ⟨hJ, vw, vm, hw, hw0, hm0⟩ := id hD
  refine lv_aload_n hx hb dL_law_1110 rfl (lv_at hl 2 rfl) ?_
  refine lv_aload_n hx hb dL_law_1111 rfl (lv_at hl 3 rfl) ?_
  refine lv_iload_n hx hb dL_law_1112 rfl (lv_at hl 0 rfl) ?_
  refine lv_iconst (v := (1 : Int32)) hx hb dL_law_1113 (by decide) ?_
  refine lv_iadd hx hb dL_law_1114 ?_
  refine va_sld hx hb Z.2.2.1 Z.2.2.2 hbA hG.1.2.2 (lw_in h0 h6 hn (by decide)) dL_law_1115 ?_
  refine t_ViG C hO hl.1 (fun _ h => h) hG hX.1 (As := [.int (sc (i + (1 : Int32)).toNatClampNeg)]) (rest := []) (t_X9_most l E J τ L f hX.1 hX.2.1 hX.2.2.1 (sc (i + (1 : Int32)).toNatClampNeg)) my_X9_most wd1505 hX.2.1 hX.2.2.1 td_0 rfl rfl rfl (Nat.le_of_ble_eq_true rfl) ⟨(Nat.le_of_ble_eq_true rfl), (Nat.le_of_ble_eq_true rfl)⟩ ⟨rfl, rfl⟩ ⟨hc, hs⟩ dL_law_1116 (fun r1 L1 f1 H locs hp hG => ?_)
  obtain ⟨rfl, s1, h1⟩ := hp
  have hX0_ := hX
  have hX := hX.S s1
  have hG := hG.swap
  refine lv_pop hx hb dL_law_1119 rfl ?_
  refine lv_aload_n hx hb dL_law_1120 rfl (lv_at hl 1 rfl) ?_
  refine lv_aload_n hx hb dL_law_1121 rfl (lv_at hl 3 rfl) ?_
  refine lv_iload_n hx hb dL_law_1122 rfl (lv_at hl 0 rfl) ?_
  refine lv_iconst (v := (1 : Int32)) hx hb dL_law_1123 (by decide) ?_
  refine lv_iadd hx hb dL_law_1124 ?_
  refine va_sld hx hb Z.2.2.1 Z.2.2.2 hbA hG.1.2.2 (lw_in h0 h6 hn (by decide)) dL_law_1125 ?_
  obtain ⟨vl, vh, hl0, hh, hRR⟩ := id hY.2.2.2.2
  refine t_ViG C hO hl.1 (fun _ h => h) hG hY.1 (As := [.int (sc (i + (1 : Int32)).toNatClampNeg)]) (rest := []) (t_X10_most l E J σ K k hY.1 hY.2.1 hY.2.2.1 (sc (i + (1 : Int32)).toNatClampNeg) hl0 hh (hRR 0 (by decide))) my_X10_most wd1509 hY.2.1 hY.2.2.1 td_40 rfl rfl rfl (Nat.le_of_ble_eq_true rfl) ⟨(Nat.le_of_ble_eq_true rfl), (Nat.le_of_ble_eq_true rfl)⟩ ⟨rfl, rfl⟩ ⟨hc, hs⟩ dL_law_1126 (fun r2 K1 k1 H locs hp hG => ?_)
  obtain ⟨rfl, s2, h2⟩ := hp
  have hY := hY.S s2 rfl rfl
  have hG := hG.swap
  refine lv_pop hx hb dL_law_1129 rfl ?_
  refine lv_goto (tgt := 2118) hx hb dL_law_1130 (by decide) ?_
  exact kk _ _ _ _ _ hG hX hY (hD.S s1 s2 hX0_ rfl rfl rfl rfl) hl
set_option maxHeartbeats 4000000 in
set_option maxRecDepth 100000 in
theorem law_35 {p : Program} {l : Launch} {e : Env} {s : State} {m : MethodId} {below : List Frame} {meth : Method} {c : Code} {b n : Nat} {sc : Nat → Int32} {E : gE} {J : Nat → Nat} {L K : List Nat} {τ σ : Nat → Nat} {f k : gF} {x y : Nat} {H : Heap} {locs : List Loc} {cells slots : Nat} {ls : Array Slot} {i : Int32} (Z : gLw E p s m meth c b n sc) (hO : oW J (fun q : Nat => s.heap.size ≤ q) s s.heap) (hn : n ≤ 3072) (hc : cells ≤ 600000) (hs : slots ≤ 7302249) (h0 : 0 ≤ i.toInt) (h6 : i.toInt + 6 ≤ (n : Int)) (hG : gG E (fun q : Nat => s.heap.size ≤ q) L f K k s.heap H locs) (hX : iX E L τ f x) (hY : iY E K σ k y) (hD : rel E L τ f x K σ k) (hl : lv_has ls 4 [(3, .int i), (2, .ref y), (1, .ref x), (0, .ref b)]) (kk : lwK p l e s m below meth c b E L K τ σ x y cells slots i) : W p l e room_1 s m #[Value.ref b] below meth c H locs cells slots (lw_Z below #[Value.ref b] s) (F0 m 1133 ls []) := by
  have C := Z.1
  have hx := C.1
  have hb := C.2.1
  have hbA : ¬ (fun q : Nat => s.heap.size ≤ q) b := Nat.not_le.mpr Z.2.2.2
  obtain ⟨hJ, vw, vm, hw, hw0, hm0⟩ := id hD
  refine lv_aload_n hx hb dL_law_1133 rfl (lv_at hl 2 rfl) ?_
  refine t_ViG C hO hl.1 (fun _ h => h) hG hX.1 (As := []) (rest := []) (t_X9_more l E J τ L f hX.1 hX.2.1 hX.2.2.1) my_X9_more wd1513 hX.2.1 hX.2.2.1 td_0 rfl rfl rfl (Nat.le_of_ble_eq_true rfl) ⟨(Nat.le_of_ble_eq_true rfl), (Nat.le_of_ble_eq_true rfl)⟩ ⟨rfl, rfl⟩ ⟨hc, hs⟩ dL_law_1134 (fun r1 L1 f1 H locs hp hG => ?_)
  obtain ⟨rfl, s1, h1⟩ := hp
  have hX0_ := hX
  have hX := hX.S s1
  have hG := hG.swap
  refine lv_pop hx hb dL_law_1137 rfl ?_
  refine lv_aload_n hx hb dL_law_1138 rfl (lv_at hl 1 rfl) ?_
  obtain ⟨vl, vh, hl0, hh, hRR⟩ := id hY.2.2.2.2
  refine t_ViG C hO hl.1 (fun _ h => h) hG hY.1 (As := []) (rest := []) (t_X10_more l E J σ K k hY.1 hY.2.1 hY.2.2.1 hl0 hh (hRR 0 (by decide))) my_X10_more wd1517 hY.2.1 hY.2.2.1 td_40 rfl rfl rfl (Nat.le_of_ble_eq_true rfl) ⟨(Nat.le_of_ble_eq_true rfl), (Nat.le_of_ble_eq_true rfl)⟩ ⟨rfl, rfl⟩ ⟨hc, hs⟩ dL_law_1139 (fun r2 K1 k1 H locs hp hG => ?_)
  obtain ⟨rfl, s2, h2⟩ := hp
  have hY := hY.S s2 rfl rfl
  have hG := hG.swap
  refine lv_pop hx hb dL_law_1142 rfl ?_
  refine lv_goto (tgt := 2118) hx hb dL_law_1143 (by decide) ?_
  exact kk _ _ _ _ _ hG hX hY (hD.S s1 s2 hX0_ rfl rfl rfl rfl) hl
set_option maxHeartbeats 4000000 in
set_option maxRecDepth 100000 in
theorem law_36 {p : Program} {l : Launch} {e : Env} {s : State} {m : MethodId} {below : List Frame} {meth : Method} {c : Code} {b n : Nat} {sc : Nat → Int32} {E : gE} {J : Nat → Nat} {L K : List Nat} {τ σ : Nat → Nat} {f k : gF} {x y : Nat} {H : Heap} {locs : List Loc} {cells slots : Nat} {ls : Array Slot} {i : Int32} (Z : gLw E p s m meth c b n sc) (hO : oW J (fun q : Nat => s.heap.size ≤ q) s s.heap) (hn : n ≤ 3072) (hc : cells ≤ 600000) (hs : slots ≤ 7302249) (h0 : 0 ≤ i.toInt) (h6 : i.toInt + 6 ≤ (n : Int)) (hG : gG E (fun q : Nat => s.heap.size ≤ q) L f K k s.heap H locs) (hX : iX E L τ f x) (hY : iY E K σ k y) (hD : rel E L τ f x K σ k) (hl : lv_has ls 4 [(3, .int i), (2, .ref y), (1, .ref x), (0, .ref b)]) (kk : lwK p l e s m below meth c b E L K τ σ x y cells slots i) : W p l e room_1 s m #[Value.ref b] below meth c H locs cells slots (lw_Z below #[Value.ref b] s) (F0 m 1146 ls []) := by
  have C := Z.1
  have hx := C.1
  have hb := C.2.1
  have hbA : ¬ (fun q : Nat => s.heap.size ≤ q) b := Nat.not_le.mpr Z.2.2.2
  obtain ⟨hJ, vw, vm, hw, hw0, hm0⟩ := id hD
  refine lv_aload_n hx hb dL_law_1146 rfl (lv_at hl 2 rfl) ?_
  refine t_ViG C hO hl.1 (fun _ h => h) hG hX.1 (As := []) (rest := []) (t_X9_less l E J τ L f hX.1 hX.2.1 hX.2.2.1) my_X9_less wd1521 hX.2.1 hX.2.2.1 td_0 rfl rfl rfl (Nat.le_of_ble_eq_true rfl) ⟨(Nat.le_of_ble_eq_true rfl), (Nat.le_of_ble_eq_true rfl)⟩ ⟨rfl, rfl⟩ ⟨hc, hs⟩ dL_law_1147 (fun r1 L1 f1 H locs hp hG => ?_)
  obtain ⟨rfl, s1, h1⟩ := hp
  have hX0_ := hX
  have hX := hX.S s1
  have hG := hG.swap
  refine lv_pop hx hb dL_law_1150 rfl ?_
  refine lv_aload_n hx hb dL_law_1151 rfl (lv_at hl 1 rfl) ?_
  obtain ⟨vl, vh, hl0, hh, hRR⟩ := id hY.2.2.2.2
  refine t_ViG C hO hl.1 (fun _ h => h) hG hY.1 (As := []) (rest := []) (t_X10_less l E J σ K k hY.1 hY.2.1 hY.2.2.1 hl0 hh (hRR 0 (by decide))) my_X10_less wd1525 hY.2.1 hY.2.2.1 td_40 rfl rfl rfl (Nat.le_of_ble_eq_true rfl) ⟨(Nat.le_of_ble_eq_true rfl), (Nat.le_of_ble_eq_true rfl)⟩ ⟨rfl, rfl⟩ ⟨hc, hs⟩ dL_law_1152 (fun r2 K1 k1 H locs hp hG => ?_)
  obtain ⟨rfl, s2, h2⟩ := hp
  have hY := hY.S s2 rfl rfl
  have hG := hG.swap
  refine lv_pop hx hb dL_law_1155 rfl ?_
  refine lv_goto (tgt := 2118) hx hb dL_law_1156 (by decide) ?_
  exact kk _ _ _ _ _ hG hX hY (hD.S s1 s2 hX0_ rfl rfl rfl rfl) hl
set_option maxHeartbeats 4000000 in
set_option maxRecDepth 100000 in
theorem law_37 {p : Program} {l : Launch} {e : Env} {s : State} {m : MethodId} {below : List Frame} {meth : Method} {c : Code} {b n : Nat} {sc : Nat → Int32} {E : gE} {J : Nat → Nat} {L K : List Nat} {τ σ : Nat → Nat} {f k : gF} {x y : Nat} {H : Heap} {locs : List Loc} {cells slots : Nat} {ls : Array Slot} {i : Int32} (Z : gLw E p s m meth c b n sc) (hO : oW J (fun q : Nat => s.heap.size ≤ q) s s.heap) (hn : n ≤ 3072) (hc : cells ≤ 600000) (hs : slots ≤ 7302249) (h0 : 0 ≤ i.toInt) (h6 : i.toInt + 6 ≤ (n : Int)) (hG : gG E (fun q : Nat => s.heap.size ≤ q) L f K k s.heap H locs) (hX : iX E L τ f x) (hY : iY E K σ k y) (hD : rel E L τ f x K σ k) (hl : lv_has ls 4 [(3, .int i), (2, .ref y), (1, .ref x), (0, .ref b)]) (kk : lwK p l e s m below meth c b E L K τ σ x y cells slots i) : W p l e room_1 s m #[Value.ref b] below meth c H locs cells slots (lw_Z below #[Value.ref b] s) (F0 m 1159 ls []) := by
  have C := Z.1
  have hx := C.1
  have hb := C.2.1
  have hbA : ¬ (fun q : Nat => s.heap.size ≤ q) b := Nat.not_le.mpr Z.2.2.2
  obtain ⟨hJ, vw, vm, hw, hw0, hm0⟩ := id hD
  refine lv_aload_n hx hb dL_law_1159 rfl (lv_at hl 2 rfl) ?_
  refine lv_aload_n hx hb dL_law_1160 rfl (lv_at hl 3 rfl) ?_
  refine lv_iload_n hx hb dL_law_1161 rfl (lv_at hl 0 rfl) ?_
  refine lv_iconst (v := (1 : Int32)) hx hb dL_law_1162 (by decide) ?_
  refine lv_iadd hx hb dL_law_1163 ?_
  refine va_sld hx hb Z.2.2.1 Z.2.2.2 hbA hG.1.2.2 (lw_in h0 h6 hn (by decide)) dL_law_1164 ?_
  refine t_ViG C hO hl.1 (fun _ h => h) hG hX.1 (As := [.int (sc (i + (1 : Int32)).toNatClampNeg)]) (rest := []) (t_X9_by l E J τ L f hX.1 hX.2.1 hX.2.2.1 (sc (i + (1 : Int32)).toNatClampNeg)) my_X9_by wd1529 hX.2.1 hX.2.2.1 td_0 rfl rfl rfl (Nat.le_of_ble_eq_true rfl) ⟨(Nat.le_of_ble_eq_true rfl), (Nat.le_of_ble_eq_true rfl)⟩ ⟨rfl, rfl⟩ ⟨hc, hs⟩ dL_law_1165 (fun r1 L1 f1 H locs hp hG => ?_)
  obtain ⟨rfl, s1, h1⟩ := hp
  have hX0_ := hX
  have hX := hX.S s1
  have hG := hG.swap
  refine lv_pop hx hb dL_law_1168 rfl ?_
  refine lv_aload_n hx hb dL_law_1169 rfl (lv_at hl 1 rfl) ?_
  refine lv_aload_n hx hb dL_law_1170 rfl (lv_at hl 3 rfl) ?_
  refine lv_iload_n hx hb dL_law_1171 rfl (lv_at hl 0 rfl) ?_
  refine lv_iconst (v := (1 : Int32)) hx hb dL_law_1172 (by decide) ?_
  refine lv_iadd hx hb dL_law_1173 ?_
  refine va_sld hx hb Z.2.2.1 Z.2.2.2 hbA hG.1.2.2 (lw_in h0 h6 hn (by decide)) dL_law_1174 ?_
  obtain ⟨vl, vh, hl0, hh, hRR⟩ := id hY.2.2.2.2
  refine t_ViG C hO hl.1 (fun _ h => h) hG hY.1 (As := [.int (sc (i + (1 : Int32)).toNatClampNeg)]) (rest := []) (t_X10_by l E J σ K k hY.1 hY.2.1 hY.2.2.1 (sc (i + (1 : Int32)).toNatClampNeg) hl0 hh (hRR 0 (by decide))) my_X10_by wd1533 hY.2.1 hY.2.2.1 td_40 rfl rfl rfl (Nat.le_of_ble_eq_true rfl) ⟨(Nat.le_of_ble_eq_true rfl), (Nat.le_of_ble_eq_true rfl)⟩ ⟨rfl, rfl⟩ ⟨hc, hs⟩ dL_law_1175 (fun r2 K1 k1 H locs hp hG => ?_)
  obtain ⟨rfl, s2, h2⟩ := hp
  have hY := hY.S s2 rfl rfl
  have hG := hG.swap
  refine lv_pop hx hb dL_law_1178 rfl ?_
  refine lv_goto (tgt := 2118) hx hb dL_law_1179 (by decide) ?_
  exact kk _ _ _ _ _ hG hX hY (hD.S s1 s2 hX0_ rfl rfl rfl rfl) hl
set_option maxHeartbeats 4000000 in
set_option maxRecDepth 100000 in
theorem law_38 {p : Program} {l : Launch} {e : Env} {s : State} {m : MethodId} {below : List Frame} {meth : Method} {c : Code} {b n : Nat} {sc : Nat → Int32} {E : gE} {J : Nat → Nat} {L K : List Nat} {τ σ : Nat → Nat} {f k : gF} {x y : Nat} {H : Heap} {locs : List Loc} {cells slots : Nat} {ls : Array Slot} {i : Int32} (Z : gLw E p s m meth c b n sc) (hO : oW J (fun q : Nat => s.heap.size ≤ q) s s.heap) (hn : n ≤ 3072) (hc : cells ≤ 600000) (hs : slots ≤ 7302249) (h0 : 0 ≤ i.toInt) (h6 : i.toInt + 6 ≤ (n : Int)) (hG : gG E (fun q : Nat => s.heap.size ≤ q) L f K k s.heap H locs) (hX : iX E L τ f x) (hY : iY E K σ k y) (hD : rel E L τ f x K σ k) (hl : lv_has ls 4 [(3, .int i), (2, .ref y), (1, .ref x), (0, .ref b)]) (kk : lwK p l e s m below meth c b E L K τ σ x y cells slots i) : W p l e room_1 s m #[Value.ref b] below meth c H locs cells slots (lw_Z below #[Value.ref b] s) (F0 m 1182 ls []) := by
  have C := Z.1
  have hx := C.1
  have hb := C.2.1
  have hbA : ¬ (fun q : Nat => s.heap.size ≤ q) b := Nat.not_le.mpr Z.2.2.2
  obtain ⟨hJ, vw, vm, hw, hw0, hm0⟩ := id hD
  refine lv_aload_n hx hb dL_law_1182 rfl (lv_at hl 2 rfl) ?_
  refine t_ViG C hO hl.1 (fun _ h => h) hG hX.1 (As := []) (rest := []) (t_X9_law l E J τ L f hX.1 hX.2.1 hX.2.2.1) my_X9_law wd1537 hX.2.1 hX.2.2.1 td_0 rfl rfl rfl (Nat.le_of_ble_eq_true rfl) ⟨(Nat.le_of_ble_eq_true rfl), (Nat.le_of_ble_eq_true rfl)⟩ ⟨rfl, rfl⟩ ⟨hc, hs⟩ dL_law_1183 (fun r1 L1 f1 H locs hp hG => ?_)
  obtain ⟨rfl, s1, h1⟩ := hp
  have hX0_ := hX
  have hX := hX.S s1
  have hG := hG.swap
  refine lv_pop hx hb dL_law_1186 rfl ?_
  refine lv_aload_n hx hb dL_law_1187 rfl (lv_at hl 1 rfl) ?_
  obtain ⟨vl, vh, hl0, hh, hRR⟩ := id hY.2.2.2.2
  refine t_ViG C hO hl.1 (fun _ h => h) hG hY.1 (As := []) (rest := []) (t_X10_law l E J σ K k hY.1 hY.2.1 hY.2.2.1 hl0 hh (hRR 0 (by decide))) my_X10_law wd1541 hY.2.1 hY.2.2.1 td_40 rfl rfl rfl (Nat.le_of_ble_eq_true rfl) ⟨(Nat.le_of_ble_eq_true rfl), (Nat.le_of_ble_eq_true rfl)⟩ ⟨rfl, rfl⟩ ⟨hc, hs⟩ dL_law_1188 (fun r2 K1 k1 H locs hp hG => ?_)
  obtain ⟨rfl, s2, h2⟩ := hp
  have hY := hY.S s2 rfl rfl
  have hG := hG.swap
  refine lv_pop hx hb dL_law_1191 rfl ?_
  refine lv_goto (tgt := 2118) hx hb dL_law_1192 (by decide) ?_
  exact kk _ _ _ _ _ hG hX hY (hD.S s1 s2 hX0_ rfl rfl rfl rfl) hl
set_option maxHeartbeats 4000000 in
set_option maxRecDepth 100000 in
theorem law_39 {p : Program} {l : Launch} {e : Env} {s : State} {m : MethodId} {below : List Frame} {meth : Method} {c : Code} {b n : Nat} {sc : Nat → Int32} {E : gE} {J : Nat → Nat} {L K : List Nat} {τ σ : Nat → Nat} {f k : gF} {x y : Nat} {H : Heap} {locs : List Loc} {cells slots : Nat} {ls : Array Slot} {i : Int32} (Z : gLw E p s m meth c b n sc) (hO : oW J (fun q : Nat => s.heap.size ≤ q) s s.heap) (hn : n ≤ 3072) (hc : cells ≤ 600000) (hs : slots ≤ 7302249) (h0 : 0 ≤ i.toInt) (h6 : i.toInt + 6 ≤ (n : Int)) (hG : gG E (fun q : Nat => s.heap.size ≤ q) L f K k s.heap H locs) (hX : iX E L τ f x) (hY : iY E K σ k y) (hD : rel E L τ f x K σ k) (hl : lv_has ls 4 [(3, .int i), (2, .ref y), (1, .ref x), (0, .ref b)]) (kk : lwK p l e s m below meth c b E L K τ σ x y cells slots i) : W p l e room_1 s m #[Value.ref b] below meth c H locs cells slots (lw_Z below #[Value.ref b] s) (F0 m 1195 ls []) := by
  have C := Z.1
  have hx := C.1
  have hb := C.2.1
  have hbA : ¬ (fun q : Nat => s.heap.size ≤ q) b := Nat.not_le.mpr Z.2.2.2
  obtain ⟨hJ, vw, vm, hw, hw0, hm0⟩ := id hD
  refine lv_aload_n hx hb dL_law_1195 rfl (lv_at hl 2 rfl) ?_
  refine lv_aload_n hx hb dL_law_1196 rfl (lv_at hl 3 rfl) ?_
  refine lv_iload_n hx hb dL_law_1197 rfl (lv_at hl 0 rfl) ?_
  refine lv_iconst (v := (1 : Int32)) hx hb dL_law_1198 (by decide) ?_
  refine lv_iadd hx hb dL_law_1199 ?_
  refine va_sld hx hb Z.2.2.1 Z.2.2.2 hbA hG.1.2.2 (lw_in h0 h6 hn (by decide)) dL_law_1200 ?_
  refine t_ViG C hO hl.1 (fun _ h => h) hG hX.1 (As := [.int (sc (i + (1 : Int32)).toNatClampNeg)]) (rest := []) (t_X9_laws l E J τ L f hX.1 hX.2.1 hX.2.2.1 (sc (i + (1 : Int32)).toNatClampNeg)) my_X9_laws wd1545 hX.2.1 hX.2.2.1 td_0 rfl rfl rfl (Nat.le_of_ble_eq_true rfl) ⟨(Nat.le_of_ble_eq_true rfl), (Nat.le_of_ble_eq_true rfl)⟩ ⟨rfl, rfl⟩ ⟨hc, hs⟩ dL_law_1201 (fun r1 L1 f1 H locs hp hG => ?_)
  obtain ⟨rfl, s1, h1⟩ := hp
  have hX0_ := hX
  have hX := hX.S s1
  have hG := hG.swap
  refine lv_pop hx hb dL_law_1204 rfl ?_
  refine lv_aload_n hx hb dL_law_1205 rfl (lv_at hl 1 rfl) ?_
  refine lv_aload_n hx hb dL_law_1206 rfl (lv_at hl 3 rfl) ?_
  refine lv_iload_n hx hb dL_law_1207 rfl (lv_at hl 0 rfl) ?_
  refine lv_iconst (v := (1 : Int32)) hx hb dL_law_1208 (by decide) ?_
  refine lv_iadd hx hb dL_law_1209 ?_
  refine va_sld hx hb Z.2.2.1 Z.2.2.2 hbA hG.1.2.2 (lw_in h0 h6 hn (by decide)) dL_law_1210 ?_
  obtain ⟨vl, vh, hl0, hh, hRR⟩ := id hY.2.2.2.2
  obtain ⟨vm, vc, hm0, hc0⟩ := hY.m
  refine t_ViG C hO hl.1 (fun _ h => h) hG hY.1 (As := [.int (sc (i + (1 : Int32)).toNatClampNeg)]) (rest := []) (t_X10_laws l E J σ K k hY.1 hY.2.1 hY.2.2.1 (sc (i + (1 : Int32)).toNatClampNeg) hl0 hh (hRR 0 (by decide)) hm0 hc0) my_X10_laws wd1549 hY.2.1 hY.2.2.1 td_40 rfl rfl rfl (Nat.le_of_ble_eq_true rfl) ⟨(Nat.le_of_ble_eq_true rfl), (Nat.le_of_ble_eq_true rfl)⟩ ⟨rfl, rfl⟩ ⟨hc, hs⟩ dL_law_1211 (fun r2 K1 k1 H locs hp hG => ?_)
  obtain ⟨rfl, s2, h2⟩ := hp
  have hY := hY.S s2 rfl rfl
  have hG := hG.swap
  refine lv_pop hx hb dL_law_1214 rfl ?_
  refine lv_goto (tgt := 2118) hx hb dL_law_1215 (by decide) ?_
  exact kk _ _ _ _ _ hG hX hY (hD.S s1 s2 hX0_ rfl rfl rfl rfl) hl
set_option maxHeartbeats 4000000 in
set_option maxRecDepth 100000 in
theorem law_40 {p : Program} {l : Launch} {e : Env} {s : State} {m : MethodId} {below : List Frame} {meth : Method} {c : Code} {b n : Nat} {sc : Nat → Int32} {E : gE} {J : Nat → Nat} {L K : List Nat} {τ σ : Nat → Nat} {f k : gF} {x y : Nat} {H : Heap} {locs : List Loc} {cells slots : Nat} {ls : Array Slot} {i : Int32} (Z : gLw E p s m meth c b n sc) (hO : oW J (fun q : Nat => s.heap.size ≤ q) s s.heap) (hn : n ≤ 3072) (hc : cells ≤ 600000) (hs : slots ≤ 7302249) (h0 : 0 ≤ i.toInt) (h6 : i.toInt + 6 ≤ (n : Int)) (hG : gG E (fun q : Nat => s.heap.size ≤ q) L f K k s.heap H locs) (hX : iX E L τ f x) (hY : iY E K σ k y) (hD : rel E L τ f x K σ k) (hl : lv_has ls 4 [(3, .int i), (2, .ref y), (1, .ref x), (0, .ref b)]) (kk : lwK p l e s m below meth c b E L K τ σ x y cells slots i) : W p l e room_1 s m #[Value.ref b] below meth c H locs cells slots (lw_Z below #[Value.ref b] s) (F0 m 1218 ls []) := by
  have C := Z.1
  have hx := C.1
  have hb := C.2.1
  have hbA : ¬ (fun q : Nat => s.heap.size ≤ q) b := Nat.not_le.mpr Z.2.2.2
  obtain ⟨hJ, vw, vm, hw, hw0, hm0⟩ := id hD
  refine lv_aload_n hx hb dL_law_1218 rfl (lv_at hl 2 rfl) ?_
  refine lv_aload_n hx hb dL_law_1219 rfl (lv_at hl 3 rfl) ?_
  refine lv_iload_n hx hb dL_law_1220 rfl (lv_at hl 0 rfl) ?_
  refine lv_iconst (v := (1 : Int32)) hx hb dL_law_1221 (by decide) ?_
  refine lv_iadd hx hb dL_law_1222 ?_
  refine va_sld hx hb Z.2.2.1 Z.2.2.2 hbA hG.1.2.2 (lw_in h0 h6 hn (by decide)) dL_law_1223 ?_
  refine t_ViG C hO hl.1 (fun _ h => h) hG hX.1 (As := [.int (sc (i + (1 : Int32)).toNatClampNeg)]) (rest := []) (t_X9_ask l E J τ L f hX.1 hX.2.1 hX.2.2.1 (sc (i + (1 : Int32)).toNatClampNeg)) my_X9_ask wd1553 hX.2.1 hX.2.2.1 td_0 rfl rfl rfl (Nat.le_of_ble_eq_true rfl) ⟨(Nat.le_of_ble_eq_true rfl), (Nat.le_of_ble_eq_true rfl)⟩ ⟨rfl, rfl⟩ ⟨hc, hs⟩ dL_law_1224 (fun r1 L1 f1 H locs hp hG => ?_)
  obtain ⟨rfl, s1, h1⟩ := hp
  have hX0_ := hX
  have hX := hX.S s1
  have hG := hG.swap
  refine lv_pop hx hb dL_law_1227 rfl ?_
  refine lv_aload_n hx hb dL_law_1228 rfl (lv_at hl 1 rfl) ?_
  refine lv_aload_n hx hb dL_law_1229 rfl (lv_at hl 3 rfl) ?_
  refine lv_iload_n hx hb dL_law_1230 rfl (lv_at hl 0 rfl) ?_
  refine lv_iconst (v := (1 : Int32)) hx hb dL_law_1231 (by decide) ?_
  refine lv_iadd hx hb dL_law_1232 ?_
  refine va_sld hx hb Z.2.2.1 Z.2.2.2 hbA hG.1.2.2 (lw_in h0 h6 hn (by decide)) dL_law_1233 ?_
  obtain ⟨vl, vh, hl0, hh, hRR⟩ := id hY.2.2.2.2
  obtain ⟨vm, vc, hm0, hc0⟩ := hY.m
  refine t_ViG C hO hl.1 (fun _ h => h) hG hY.1 (As := [.int (sc (i + (1 : Int32)).toNatClampNeg)]) (rest := []) (t_X10_ask l E J σ K k hY.1 hY.2.1 hY.2.2.1 (sc (i + (1 : Int32)).toNatClampNeg) hl0 hh (hRR 0 (by decide)) hm0 hc0) my_X10_ask wd1557 hY.2.1 hY.2.2.1 td_40 rfl rfl rfl (Nat.le_of_ble_eq_true rfl) ⟨(Nat.le_of_ble_eq_true rfl), (Nat.le_of_ble_eq_true rfl)⟩ ⟨rfl, rfl⟩ ⟨hc, hs⟩ dL_law_1234 (fun r2 K1 k1 H locs hp hG => ?_)
  obtain ⟨rfl, s2, h2⟩ := hp
  have hY := hY.S s2 rfl rfl
  have hG := hG.swap
  refine lv_pop hx hb dL_law_1237 rfl ?_
  refine lv_goto (tgt := 2118) hx hb dL_law_1238 (by decide) ?_
  exact kk _ _ _ _ _ hG hX hY (hD.S s1 s2 hX0_ rfl rfl rfl rfl) hl
set_option maxHeartbeats 4000000 in
set_option maxRecDepth 100000 in
theorem law_41 {p : Program} {l : Launch} {e : Env} {s : State} {m : MethodId} {below : List Frame} {meth : Method} {c : Code} {b n : Nat} {sc : Nat → Int32} {E : gE} {J : Nat → Nat} {L K : List Nat} {τ σ : Nat → Nat} {f k : gF} {x y : Nat} {H : Heap} {locs : List Loc} {cells slots : Nat} {ls : Array Slot} {i : Int32} (Z : gLw E p s m meth c b n sc) (hO : oW J (fun q : Nat => s.heap.size ≤ q) s s.heap) (hn : n ≤ 3072) (hc : cells ≤ 600000) (hs : slots ≤ 7302249) (h0 : 0 ≤ i.toInt) (h6 : i.toInt + 6 ≤ (n : Int)) (hG : gG E (fun q : Nat => s.heap.size ≤ q) L f K k s.heap H locs) (hX : iX E L τ f x) (hY : iY E K σ k y) (hD : rel E L τ f x K σ k) (hl : lv_has ls 4 [(3, .int i), (2, .ref y), (1, .ref x), (0, .ref b)]) (kk : lwK p l e s m below meth c b E L K τ σ x y cells slots i) : W p l e room_1 s m #[Value.ref b] below meth c H locs cells slots (lw_Z below #[Value.ref b] s) (F0 m 1241 ls []) := by
  have C := Z.1
  have hx := C.1
  have hb := C.2.1
  have hbA : ¬ (fun q : Nat => s.heap.size ≤ q) b := Nat.not_le.mpr Z.2.2.2
  obtain ⟨hJ, vw, vm, hw, hw0, hm0⟩ := id hD
  refine lv_aload_n hx hb dL_law_1241 rfl (lv_at hl 2 rfl) ?_
  refine lv_aload_n hx hb dL_law_1242 rfl (lv_at hl 3 rfl) ?_
  refine lv_iload_n hx hb dL_law_1243 rfl (lv_at hl 0 rfl) ?_
  refine lv_iconst (v := (1 : Int32)) hx hb dL_law_1244 (by decide) ?_
  refine lv_iadd hx hb dL_law_1245 ?_
  refine va_sld hx hb Z.2.2.1 Z.2.2.2 hbA hG.1.2.2 (lw_in h0 h6 hn (by decide)) dL_law_1246 ?_
  refine t_ViG C hO hl.1 (fun _ h => h) hG hX.1 (As := [.int (sc (i + (1 : Int32)).toNatClampNeg)]) (rest := []) (t_X9_began l E J τ L f hX.1 hX.2.1 hX.2.2.1 (sc (i + (1 : Int32)).toNatClampNeg)) my_X9_began wd1561 hX.2.1 hX.2.2.1 td_0 rfl rfl rfl (Nat.le_of_ble_eq_true rfl) ⟨(Nat.le_of_ble_eq_true rfl), (Nat.le_of_ble_eq_true rfl)⟩ ⟨rfl, rfl⟩ ⟨hc, hs⟩ dL_law_1247 (fun r1 L1 f1 H locs hp hG => ?_)
  obtain ⟨rfl, s1, h1⟩ := hp
  have hX0_ := hX
  have hX := hX.S s1
  have hG := hG.swap
  refine lv_pop hx hb dL_law_1250 rfl ?_
  refine lv_aload_n hx hb dL_law_1251 rfl (lv_at hl 1 rfl) ?_
  refine lv_aload_n hx hb dL_law_1252 rfl (lv_at hl 3 rfl) ?_
  refine lv_iload_n hx hb dL_law_1253 rfl (lv_at hl 0 rfl) ?_
  refine lv_iconst (v := (1 : Int32)) hx hb dL_law_1254 (by decide) ?_
  refine lv_iadd hx hb dL_law_1255 ?_
  refine va_sld hx hb Z.2.2.1 Z.2.2.2 hbA hG.1.2.2 (lw_in h0 h6 hn (by decide)) dL_law_1256 ?_
  obtain ⟨vl, vh, hl0, hh, hRR⟩ := id hY.2.2.2.2
  obtain ⟨vm, vc, hm0, hc0⟩ := hY.m
  refine t_ViG C hO hl.1 (fun _ h => h) hG hY.1 (As := [.int (sc (i + (1 : Int32)).toNatClampNeg)]) (rest := []) (t_X10_began l E J σ K k hY.1 hY.2.1 hY.2.2.1 (sc (i + (1 : Int32)).toNatClampNeg) hl0 hh (hRR 0 (by decide)) hm0 hc0) my_X10_began wd1565 hY.2.1 hY.2.2.1 td_40 rfl rfl rfl (Nat.le_of_ble_eq_true rfl) ⟨(Nat.le_of_ble_eq_true rfl), (Nat.le_of_ble_eq_true rfl)⟩ ⟨rfl, rfl⟩ ⟨hc, hs⟩ dL_law_1257 (fun r2 K1 k1 H locs hp hG => ?_)
  obtain ⟨rfl, s2, h2⟩ := hp
  have hY := hY.S s2 rfl rfl
  have hG := hG.swap
  refine lv_pop hx hb dL_law_1260 rfl ?_
  refine lv_goto (tgt := 2118) hx hb dL_law_1261 (by decide) ?_
  exact kk _ _ _ _ _ hG hX hY (hD.S s1 s2 hX0_ rfl rfl rfl rfl) hl
