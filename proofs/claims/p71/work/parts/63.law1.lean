set_option maxHeartbeats 4000000 in
set_option maxRecDepth 100000 in
theorem law_14 {p : Program} {l : Launch} {e : Env} {s : State} {m : MethodId} {below : List Frame} {meth : Method} {c : Code} {b n : Nat} {sc : Nat → Int32} {E : gE} {J : Nat → Nat} {L K : List Nat} {τ σ : Nat → Nat} {f k : gF} {x y : Nat} {H : Heap} {locs : List Loc} {cells slots : Nat} {ls : Array Slot} {i : Int32} (Z : gLw E p s m meth c b n sc) (hO : oW J (fun q : Nat => s.heap.size ≤ q) s s.heap) (hn : n ≤ 3072) (hc : cells ≤ 600000) (hs : slots ≤ 7302249) (h0 : 0 ≤ i.toInt) (h6 : i.toInt + 6 ≤ (n : Int)) (hG : gG E (fun q : Nat => s.heap.size ≤ q) L f K k s.heap H locs) (hX : iX E L τ f x) (hY : iY E K σ k y) (hD : rel E L τ f x K σ k) (hl : lv_has ls 4 [(3, .int i), (2, .ref y), (1, .ref x), (0, .ref b)]) (kk : lwK p l e s m below meth c b E L K τ σ x y cells slots i) : W p l e room_1 s m #[Value.ref b] below meth c H locs cells slots (lw_Z below #[Value.ref b] s) (F0 m 720 ls []) := by
  have C := Z.1
  have hx := C.1
  have hb := C.2.1
  have hbA : ¬ (fun q : Nat => s.heap.size ≤ q) b := Nat.not_le.mpr Z.2.2.2
  obtain ⟨hJ, vw, vm, hw, hw0, hm0⟩ := id hD
  refine lv_aload_n hx hb dL_law_720 rfl (lv_at hl 2 rfl) ?_
  refine lv_aload_n hx hb dL_law_721 rfl (lv_at hl 3 rfl) ?_
  refine lv_iload_n hx hb dL_law_722 rfl (lv_at hl 0 rfl) ?_
  refine lv_iconst (v := (1 : Int32)) hx hb dL_law_723 (by decide) ?_
  refine lv_iadd hx hb dL_law_724 ?_
  refine va_sld hx hb Z.2.2.1 Z.2.2.2 hbA hG.1.2.2 (lw_in h0 h6 hn (by decide)) dL_law_725 ?_
  refine lv_aload_n hx hb dL_law_726 rfl (lv_at hl 3 rfl) ?_
  refine lv_iload_n hx hb dL_law_727 rfl (lv_at hl 0 rfl) ?_
  refine lv_iconst (v := (2 : Int32)) hx hb dL_law_728 (by decide) ?_
  refine lv_iadd hx hb dL_law_729 ?_
  refine va_sld hx hb Z.2.2.1 Z.2.2.2 hbA hG.1.2.2 (lw_in h0 h6 hn (by decide)) dL_law_730 ?_
  refine t_ViG C hO hl.1 (fun _ h => h) hG hX.1 (As := [.int (sc (i + (1 : Int32)).toNatClampNeg), .int (sc (i + (2 : Int32)).toNatClampNeg)]) (rest := []) (t_X9_hears l E J τ L f hX.1 hX.2.1 hX.2.2.1 (sc (i + (1 : Int32)).toNatClampNeg) (sc (i + (2 : Int32)).toNatClampNeg)) my_X9_hears wd1345 hX.2.1 hX.2.2.1 td_0 rfl rfl rfl (Nat.le_of_ble_eq_true rfl) ⟨(Nat.le_of_ble_eq_true rfl), (Nat.le_of_ble_eq_true rfl)⟩ ⟨rfl, rfl⟩ ⟨hc, hs⟩ dL_law_731 (fun r1 L1 f1 H locs hp hG => ?_)
  obtain ⟨rfl, s1, h1⟩ := hp
  have hX0_ := hX
  have hX := hX.S s1
  have hG := hG.swap
  refine lv_pop hx hb dL_law_734 rfl ?_
  refine lv_aload_n hx hb dL_law_735 rfl (lv_at hl 1 rfl) ?_
  refine lv_aload_n hx hb dL_law_736 rfl (lv_at hl 3 rfl) ?_
  refine lv_iload_n hx hb dL_law_737 rfl (lv_at hl 0 rfl) ?_
  refine lv_iconst (v := (1 : Int32)) hx hb dL_law_738 (by decide) ?_
  refine lv_iadd hx hb dL_law_739 ?_
  refine va_sld hx hb Z.2.2.1 Z.2.2.2 hbA hG.1.2.2 (lw_in h0 h6 hn (by decide)) dL_law_740 ?_
  refine lv_aload_n hx hb dL_law_741 rfl (lv_at hl 3 rfl) ?_
  refine lv_iload_n hx hb dL_law_742 rfl (lv_at hl 0 rfl) ?_
  refine lv_iconst (v := (2 : Int32)) hx hb dL_law_743 (by decide) ?_
  refine lv_iadd hx hb dL_law_744 ?_
  refine va_sld hx hb Z.2.2.1 Z.2.2.2 hbA hG.1.2.2 (lw_in h0 h6 hn (by decide)) dL_law_745 ?_
  obtain ⟨vl, vh, hl0, hh, hRR⟩ := id hY.2.2.2.2
  refine t_ViG C hO hl.1 (fun _ h => h) hG hY.1 (As := [.int (sc (i + (1 : Int32)).toNatClampNeg), .int (sc (i + (2 : Int32)).toNatClampNeg)]) (rest := []) (t_X10_hears l E J σ K k hY.1 hY.2.1 hY.2.2.1 (sc (i + (1 : Int32)).toNatClampNeg) (sc (i + (2 : Int32)).toNatClampNeg) hl0 hh (hRR 0 (by decide))) my_X10_hears wd1349 hY.2.1 hY.2.2.1 td_40 rfl rfl rfl (Nat.le_of_ble_eq_true rfl) ⟨(Nat.le_of_ble_eq_true rfl), (Nat.le_of_ble_eq_true rfl)⟩ ⟨rfl, rfl⟩ ⟨hc, hs⟩ dL_law_746 (fun r2 K1 k1 H locs hp hG => ?_)
  obtain ⟨rfl, s2, h2⟩ := hp
  have hY := hY.S s2 rfl rfl
  have hG := hG.swap
  refine lv_pop hx hb dL_law_749 rfl ?_
  refine lv_goto (tgt := 2118) hx hb dL_law_750 (by decide) ?_
  exact kk _ _ _ _ _ hG hX hY (hD.S s1 s2 hX0_ rfl rfl rfl rfl) hl
set_option maxHeartbeats 4000000 in
set_option maxRecDepth 100000 in
theorem law_15 {p : Program} {l : Launch} {e : Env} {s : State} {m : MethodId} {below : List Frame} {meth : Method} {c : Code} {b n : Nat} {sc : Nat → Int32} {E : gE} {J : Nat → Nat} {L K : List Nat} {τ σ : Nat → Nat} {f k : gF} {x y : Nat} {H : Heap} {locs : List Loc} {cells slots : Nat} {ls : Array Slot} {i : Int32} (Z : gLw E p s m meth c b n sc) (hO : oW J (fun q : Nat => s.heap.size ≤ q) s s.heap) (hn : n ≤ 3072) (hc : cells ≤ 600000) (hs : slots ≤ 7302249) (h0 : 0 ≤ i.toInt) (h6 : i.toInt + 6 ≤ (n : Int)) (hG : gG E (fun q : Nat => s.heap.size ≤ q) L f K k s.heap H locs) (hX : iX E L τ f x) (hY : iY E K σ k y) (hD : rel E L τ f x K σ k) (hl : lv_has ls 4 [(3, .int i), (2, .ref y), (1, .ref x), (0, .ref b)]) (kk : lwK p l e s m below meth c b E L K τ σ x y cells slots i) : W p l e room_1 s m #[Value.ref b] below meth c H locs cells slots (lw_Z below #[Value.ref b] s) (F0 m 753 ls []) := by
  have C := Z.1
  have hx := C.1
  have hb := C.2.1
  have hbA : ¬ (fun q : Nat => s.heap.size ≤ q) b := Nat.not_le.mpr Z.2.2.2
  obtain ⟨hJ, vw, vm, hw, hw0, hm0⟩ := id hD
  refine lv_aload_n hx hb dL_law_753 rfl (lv_at hl 2 rfl) ?_
  refine lv_aload_n hx hb dL_law_754 rfl (lv_at hl 3 rfl) ?_
  refine lv_iload_n hx hb dL_law_755 rfl (lv_at hl 0 rfl) ?_
  refine lv_iconst (v := (1 : Int32)) hx hb dL_law_756 (by decide) ?_
  refine lv_iadd hx hb dL_law_757 ?_
  refine va_sld hx hb Z.2.2.1 Z.2.2.2 hbA hG.1.2.2 (lw_in h0 h6 hn (by decide)) dL_law_758 ?_
  refine t_ViG C hO hl.1 (fun _ h => h) hG hX.1 (As := [.int (sc (i + (1 : Int32)).toNatClampNeg)]) (rest := []) (t_X9_heard l E J τ L f hX.1 hX.2.1 hX.2.2.1 (sc (i + (1 : Int32)).toNatClampNeg)) my_X9_heard wd1353 hX.2.1 hX.2.2.1 td_0 rfl rfl rfl (Nat.le_of_ble_eq_true rfl) ⟨(Nat.le_of_ble_eq_true rfl), (Nat.le_of_ble_eq_true rfl)⟩ ⟨rfl, rfl⟩ ⟨hc, hs⟩ dL_law_759 (fun r1 L1 f1 H locs hp hG => ?_)
  obtain ⟨rfl, s1, h1⟩ := hp
  have hX0_ := hX
  have hX := hX.S s1
  have hG := hG.swap
  refine lv_pop hx hb dL_law_762 rfl ?_
  refine lv_aload_n hx hb dL_law_763 rfl (lv_at hl 1 rfl) ?_
  refine lv_aload_n hx hb dL_law_764 rfl (lv_at hl 3 rfl) ?_
  refine lv_iload_n hx hb dL_law_765 rfl (lv_at hl 0 rfl) ?_
  refine lv_iconst (v := (1 : Int32)) hx hb dL_law_766 (by decide) ?_
  refine lv_iadd hx hb dL_law_767 ?_
  refine va_sld hx hb Z.2.2.1 Z.2.2.2 hbA hG.1.2.2 (lw_in h0 h6 hn (by decide)) dL_law_768 ?_
  obtain ⟨vl, vh, hl0, hh, hRR⟩ := id hY.2.2.2.2
  refine t_ViG C hO hl.1 (fun _ h => h) hG hY.1 (As := [.int (sc (i + (1 : Int32)).toNatClampNeg)]) (rest := []) (t_X10_heard l E J σ K k hY.1 hY.2.1 hY.2.2.1 (sc (i + (1 : Int32)).toNatClampNeg) hl0 hh (hRR 0 (by decide))) my_X10_heard wd1357 hY.2.1 hY.2.2.1 td_40 rfl rfl rfl (Nat.le_of_ble_eq_true rfl) ⟨(Nat.le_of_ble_eq_true rfl), (Nat.le_of_ble_eq_true rfl)⟩ ⟨rfl, rfl⟩ ⟨hc, hs⟩ dL_law_769 (fun r2 K1 k1 H locs hp hG => ?_)
  obtain ⟨rfl, s2, h2⟩ := hp
  have hY := hY.S s2 rfl rfl
  have hG := hG.swap
  refine lv_pop hx hb dL_law_772 rfl ?_
  refine lv_goto (tgt := 2118) hx hb dL_law_773 (by decide) ?_
  exact kk _ _ _ _ _ hG hX hY (hD.S s1 s2 hX0_ rfl rfl rfl rfl) hl
set_option maxHeartbeats 4000000 in
set_option maxRecDepth 100000 in
theorem law_16 {p : Program} {l : Launch} {e : Env} {s : State} {m : MethodId} {below : List Frame} {meth : Method} {c : Code} {b n : Nat} {sc : Nat → Int32} {E : gE} {J : Nat → Nat} {L K : List Nat} {τ σ : Nat → Nat} {f k : gF} {x y : Nat} {H : Heap} {locs : List Loc} {cells slots : Nat} {ls : Array Slot} {i : Int32} (Z : gLw E p s m meth c b n sc) (hO : oW J (fun q : Nat => s.heap.size ≤ q) s s.heap) (hn : n ≤ 3072) (hc : cells ≤ 600000) (hs : slots ≤ 7302249) (h0 : 0 ≤ i.toInt) (h6 : i.toInt + 6 ≤ (n : Int)) (hG : gG E (fun q : Nat => s.heap.size ≤ q) L f K k s.heap H locs) (hX : iX E L τ f x) (hY : iY E K σ k y) (hD : rel E L τ f x K σ k) (hl : lv_has ls 4 [(3, .int i), (2, .ref y), (1, .ref x), (0, .ref b)]) (kk : lwK p l e s m below meth c b E L K τ σ x y cells slots i) : W p l e room_1 s m #[Value.ref b] below meth c H locs cells slots (lw_Z below #[Value.ref b] s) (F0 m 776 ls []) := by
  have C := Z.1
  have hx := C.1
  have hb := C.2.1
  have hbA : ¬ (fun q : Nat => s.heap.size ≤ q) b := Nat.not_le.mpr Z.2.2.2
  obtain ⟨hJ, vw, vm, hw, hw0, hm0⟩ := id hD
  refine lv_aload_n hx hb dL_law_776 rfl (lv_at hl 2 rfl) ?_
  refine lv_aload_n hx hb dL_law_777 rfl (lv_at hl 3 rfl) ?_
  refine lv_iload_n hx hb dL_law_778 rfl (lv_at hl 0 rfl) ?_
  refine lv_iconst (v := (1 : Int32)) hx hb dL_law_779 (by decide) ?_
  refine lv_iadd hx hb dL_law_780 ?_
  refine va_sld hx hb Z.2.2.1 Z.2.2.2 hbA hG.1.2.2 (lw_in h0 h6 hn (by decide)) dL_law_781 ?_
  refine t_ViG C hO hl.1 (fun _ h => h) hG hX.1 (As := [.int (sc (i + (1 : Int32)).toNatClampNeg)]) (rest := []) (t_X9_ears l E J τ L f hX.1 hX.2.1 hX.2.2.1 (sc (i + (1 : Int32)).toNatClampNeg)) my_X9_ears wd1361 hX.2.1 hX.2.2.1 td_0 rfl rfl rfl (Nat.le_of_ble_eq_true rfl) ⟨(Nat.le_of_ble_eq_true rfl), (Nat.le_of_ble_eq_true rfl)⟩ ⟨rfl, rfl⟩ ⟨hc, hs⟩ dL_law_782 (fun r1 L1 f1 H locs hp hG => ?_)
  obtain ⟨rfl, s1, h1⟩ := hp
  have hX0_ := hX
  have hX := hX.S s1
  have hG := hG.swap
  refine lv_pop hx hb dL_law_785 rfl ?_
  refine lv_aload_n hx hb dL_law_786 rfl (lv_at hl 1 rfl) ?_
  refine lv_aload_n hx hb dL_law_787 rfl (lv_at hl 3 rfl) ?_
  refine lv_iload_n hx hb dL_law_788 rfl (lv_at hl 0 rfl) ?_
  refine lv_iconst (v := (1 : Int32)) hx hb dL_law_789 (by decide) ?_
  refine lv_iadd hx hb dL_law_790 ?_
  refine va_sld hx hb Z.2.2.1 Z.2.2.2 hbA hG.1.2.2 (lw_in h0 h6 hn (by decide)) dL_law_791 ?_
  obtain ⟨vl, vh, hl0, hh, hRR⟩ := id hY.2.2.2.2
  refine t_ViG C hO hl.1 (fun _ h => h) hG hY.1 (As := [.int (sc (i + (1 : Int32)).toNatClampNeg)]) (rest := []) (t_X10_ears l E J σ K k hY.1 hY.2.1 hY.2.2.1 (sc (i + (1 : Int32)).toNatClampNeg) hl0 hh (hRR 0 (by decide))) my_X10_ears wd1365 hY.2.1 hY.2.2.1 td_40 rfl rfl rfl (Nat.le_of_ble_eq_true rfl) ⟨(Nat.le_of_ble_eq_true rfl), (Nat.le_of_ble_eq_true rfl)⟩ ⟨rfl, rfl⟩ ⟨hc, hs⟩ dL_law_792 (fun r2 K1 k1 H locs hp hG => ?_)
  obtain ⟨rfl, s2, h2⟩ := hp
  have hY := hY.S s2 rfl rfl
  have hG := hG.swap
  refine lv_pop hx hb dL_law_795 rfl ?_
  refine lv_goto (tgt := 2118) hx hb dL_law_796 (by decide) ?_
  exact kk _ _ _ _ _ hG hX hY (hD.S s1 s2 hX0_ rfl rfl rfl rfl) hl
set_option maxHeartbeats 4000000 in
set_option maxRecDepth 100000 in
theorem law_17 {p : Program} {l : Launch} {e : Env} {s : State} {m : MethodId} {below : List Frame} {meth : Method} {c : Code} {b n : Nat} {sc : Nat → Int32} {E : gE} {J : Nat → Nat} {L K : List Nat} {τ σ : Nat → Nat} {f k : gF} {x y : Nat} {H : Heap} {locs : List Loc} {cells slots : Nat} {ls : Array Slot} {i : Int32} (Z : gLw E p s m meth c b n sc) (hO : oW J (fun q : Nat => s.heap.size ≤ q) s s.heap) (hn : n ≤ 3072) (hc : cells ≤ 600000) (hs : slots ≤ 7302249) (h0 : 0 ≤ i.toInt) (h6 : i.toInt + 6 ≤ (n : Int)) (hG : gG E (fun q : Nat => s.heap.size ≤ q) L f K k s.heap H locs) (hX : iX E L τ f x) (hY : iY E K σ k y) (hD : rel E L τ f x K σ k) (hl : lv_has ls 4 [(3, .int i), (2, .ref y), (1, .ref x), (0, .ref b)]) (kk : lwK p l e s m below meth c b E L K τ σ x y cells slots i) : W p l e room_1 s m #[Value.ref b] below meth c H locs cells slots (lw_Z below #[Value.ref b] s) (F0 m 799 ls []) := by
  have C := Z.1
  have hx := C.1
  have hb := C.2.1
  have hbA : ¬ (fun q : Nat => s.heap.size ≤ q) b := Nat.not_le.mpr Z.2.2.2
  obtain ⟨hJ, vw, vm, hw, hw0, hm0⟩ := id hD
  refine lv_aload_n hx hb dL_law_799 rfl (lv_at hl 2 rfl) ?_
  refine t_ViG C hO hl.1 (fun _ h => h) hG hX.1 (As := []) (rest := []) (t_X9_loud l E J τ L f hX.1 hX.2.1 hX.2.2.1) my_X9_loud wd1369 hX.2.1 hX.2.2.1 td_0 rfl rfl rfl (Nat.le_of_ble_eq_true rfl) ⟨(Nat.le_of_ble_eq_true rfl), (Nat.le_of_ble_eq_true rfl)⟩ ⟨rfl, rfl⟩ ⟨hc, hs⟩ dL_law_800 (fun r1 L1 f1 H locs hp hG => ?_)
  obtain ⟨rfl, s1, h1⟩ := hp
  have hX0_ := hX
  have hX := hX.S s1
  have hG := hG.swap
  refine lv_pop hx hb dL_law_803 rfl ?_
  refine lv_aload_n hx hb dL_law_804 rfl (lv_at hl 1 rfl) ?_
  obtain ⟨vl, vh, hl0, hh, hRR⟩ := id hY.2.2.2.2
  refine t_ViG C hO hl.1 (fun _ h => h) hG hY.1 (As := []) (rest := []) (t_X10_loud l E J σ K k hY.1 hY.2.1 hY.2.2.1 hl0 hh (hRR 0 (by decide))) my_X10_loud wd1373 hY.2.1 hY.2.2.1 td_40 rfl rfl rfl (Nat.le_of_ble_eq_true rfl) ⟨(Nat.le_of_ble_eq_true rfl), (Nat.le_of_ble_eq_true rfl)⟩ ⟨rfl, rfl⟩ ⟨hc, hs⟩ dL_law_805 (fun r2 K1 k1 H locs hp hG => ?_)
  obtain ⟨rfl, s2, h2⟩ := hp
  have hY := hY.S s2 rfl rfl
  have hG := hG.swap
  refine lv_pop hx hb dL_law_808 rfl ?_
  refine lv_goto (tgt := 2118) hx hb dL_law_809 (by decide) ?_
  exact kk _ _ _ _ _ hG hX hY (hD.S s1 s2 hX0_ rfl rfl rfl rfl) hl
set_option maxHeartbeats 4000000 in
set_option maxRecDepth 100000 in
theorem law_18 {p : Program} {l : Launch} {e : Env} {s : State} {m : MethodId} {below : List Frame} {meth : Method} {c : Code} {b n : Nat} {sc : Nat → Int32} {E : gE} {J : Nat → Nat} {L K : List Nat} {τ σ : Nat → Nat} {f k : gF} {x y : Nat} {H : Heap} {locs : List Loc} {cells slots : Nat} {ls : Array Slot} {i : Int32} (Z : gLw E p s m meth c b n sc) (hO : oW J (fun q : Nat => s.heap.size ≤ q) s s.heap) (hn : n ≤ 3072) (hc : cells ≤ 600000) (hs : slots ≤ 7302249) (h0 : 0 ≤ i.toInt) (h6 : i.toInt + 6 ≤ (n : Int)) (hG : gG E (fun q : Nat => s.heap.size ≤ q) L f K k s.heap H locs) (hX : iX E L τ f x) (hY : iY E K σ k y) (hD : rel E L τ f x K σ k) (hl : lv_has ls 4 [(3, .int i), (2, .ref y), (1, .ref x), (0, .ref b)]) (kk : lwK p l e s m below meth c b E L K τ σ x y cells slots i) : W p l e room_1 s m #[Value.ref b] below meth c H locs cells slots (lw_Z below #[Value.ref b] s) (F0 m 812 ls []) := by
  have C := Z.1
  have hx := C.1
  have hb := C.2.1
  have hbA : ¬ (fun q : Nat => s.heap.size ≤ q) b := Nat.not_le.mpr Z.2.2.2
  obtain ⟨hJ, vw, vm, hw, hw0, hm0⟩ := id hD
  refine lv_aload_n hx hb dL_law_812 rfl (lv_at hl 2 rfl) ?_
  refine t_ViG C hO hl.1 (fun _ h => h) hG hX.1 (As := []) (rest := []) (t_X9_quiet l E J τ L f hX.1 hX.2.1 hX.2.2.1) my_X9_quiet wd1377 hX.2.1 hX.2.2.1 td_0 rfl rfl rfl (Nat.le_of_ble_eq_true rfl) ⟨(Nat.le_of_ble_eq_true rfl), (Nat.le_of_ble_eq_true rfl)⟩ ⟨rfl, rfl⟩ ⟨hc, hs⟩ dL_law_813 (fun r1 L1 f1 H locs hp hG => ?_)
  obtain ⟨rfl, s1, h1⟩ := hp
  have hX0_ := hX
  have hX := hX.S s1
  have hG := hG.swap
  refine lv_pop hx hb dL_law_816 rfl ?_
  refine lv_aload_n hx hb dL_law_817 rfl (lv_at hl 1 rfl) ?_
  obtain ⟨vl, vh, hl0, hh, hRR⟩ := id hY.2.2.2.2
  refine t_ViG C hO hl.1 (fun _ h => h) hG hY.1 (As := []) (rest := []) (t_X10_quiet l E J σ K k hY.1 hY.2.1 hY.2.2.1 hl0 hh (hRR 0 (by decide))) my_X10_quiet wd1381 hY.2.1 hY.2.2.1 td_40 rfl rfl rfl (Nat.le_of_ble_eq_true rfl) ⟨(Nat.le_of_ble_eq_true rfl), (Nat.le_of_ble_eq_true rfl)⟩ ⟨rfl, rfl⟩ ⟨hc, hs⟩ dL_law_818 (fun r2 K1 k1 H locs hp hG => ?_)
  obtain ⟨rfl, s2, h2⟩ := hp
  have hY := hY.S s2 rfl rfl
  have hG := hG.swap
  refine lv_pop hx hb dL_law_821 rfl ?_
  refine lv_goto (tgt := 2118) hx hb dL_law_822 (by decide) ?_
  exact kk _ _ _ _ _ hG hX hY (hD.S s1 s2 hX0_ rfl rfl rfl rfl) hl
set_option maxHeartbeats 4000000 in
set_option maxRecDepth 100000 in
theorem law_19 {p : Program} {l : Launch} {e : Env} {s : State} {m : MethodId} {below : List Frame} {meth : Method} {c : Code} {b n : Nat} {sc : Nat → Int32} {E : gE} {J : Nat → Nat} {L K : List Nat} {τ σ : Nat → Nat} {f k : gF} {x y : Nat} {H : Heap} {locs : List Loc} {cells slots : Nat} {ls : Array Slot} {i : Int32} (Z : gLw E p s m meth c b n sc) (hO : oW J (fun q : Nat => s.heap.size ≤ q) s s.heap) (hn : n ≤ 3072) (hc : cells ≤ 600000) (hs : slots ≤ 7302249) (h0 : 0 ≤ i.toInt) (h6 : i.toInt + 6 ≤ (n : Int)) (hG : gG E (fun q : Nat => s.heap.size ≤ q) L f K k s.heap H locs) (hX : iX E L τ f x) (hY : iY E K σ k y) (hD : rel E L τ f x K σ k) (hl : lv_has ls 4 [(3, .int i), (2, .ref y), (1, .ref x), (0, .ref b)]) (kk : lwK p l e s m below meth c b E L K τ σ x y cells slots i) : W p l e room_1 s m #[Value.ref b] below meth c H locs cells slots (lw_Z below #[Value.ref b] s) (F0 m 825 ls []) := by
  have C := Z.1
  have hx := C.1
  have hb := C.2.1
  have hbA : ¬ (fun q : Nat => s.heap.size ≤ q) b := Nat.not_le.mpr Z.2.2.2
  obtain ⟨hJ, vw, vm, hw, hw0, hm0⟩ := id hD
  refine lv_aload_n hx hb dL_law_825 rfl (lv_at hl 2 rfl) ?_
  refine t_ViG C hO hl.1 (fun _ h => h) hG hX.1 (As := []) (rest := []) (t_X9_served l E J τ L f hX.1 hX.2.1 hX.2.2.1) my_X9_served wd1385 hX.2.1 hX.2.2.1 td_0 rfl rfl rfl (Nat.le_of_ble_eq_true rfl) ⟨(Nat.le_of_ble_eq_true rfl), (Nat.le_of_ble_eq_true rfl)⟩ ⟨rfl, rfl⟩ ⟨hc, hs⟩ dL_law_826 (fun r1 L1 f1 H locs hp hG => ?_)
  obtain ⟨rfl, s1, h1⟩ := hp
  have hX0_ := hX
  have hX := hX.S s1
  have hG := hG.swap
  refine lv_pop hx hb dL_law_829 rfl ?_
  refine lv_aload_n hx hb dL_law_830 rfl (lv_at hl 1 rfl) ?_
  obtain ⟨vl, vh, hl0, hh, hRR⟩ := id hY.2.2.2.2
  refine t_ViG C hO hl.1 (fun _ h => h) hG hY.1 (As := []) (rest := []) (t_X10_served l E J σ K k hY.1 hY.2.1 hY.2.2.1 hl0 hh (hRR 0 (by decide))) my_X10_served wd1389 hY.2.1 hY.2.2.1 td_40 rfl rfl rfl (Nat.le_of_ble_eq_true rfl) ⟨(Nat.le_of_ble_eq_true rfl), (Nat.le_of_ble_eq_true rfl)⟩ ⟨rfl, rfl⟩ ⟨hc, hs⟩ dL_law_831 (fun r2 K1 k1 H locs hp hG => ?_)
  obtain ⟨rfl, s2, h2⟩ := hp
  have hY := hY.S s2 rfl rfl
  have hG := hG.swap
  refine lv_pop hx hb dL_law_834 rfl ?_
  refine lv_goto (tgt := 2118) hx hb dL_law_835 (by decide) ?_
  exact kk _ _ _ _ _ hG hX hY (hD.S s1 s2 hX0_ rfl rfl rfl rfl) hl
set_option maxHeartbeats 4000000 in
set_option maxRecDepth 100000 in
theorem law_20 {p : Program} {l : Launch} {e : Env} {s : State} {m : MethodId} {below : List Frame} {meth : Method} {c : Code} {b n : Nat} {sc : Nat → Int32} {E : gE} {J : Nat → Nat} {L K : List Nat} {τ σ : Nat → Nat} {f k : gF} {x y : Nat} {H : Heap} {locs : List Loc} {cells slots : Nat} {ls : Array Slot} {i : Int32} (Z : gLw E p s m meth c b n sc) (hO : oW J (fun q : Nat => s.heap.size ≤ q) s s.heap) (hn : n ≤ 3072) (hc : cells ≤ 600000) (hs : slots ≤ 7302249) (h0 : 0 ≤ i.toInt) (h6 : i.toInt + 6 ≤ (n : Int)) (hG : gG E (fun q : Nat => s.heap.size ≤ q) L f K k s.heap H locs) (hX : iX E L τ f x) (hY : iY E K σ k y) (hD : rel E L τ f x K σ k) (hl : lv_has ls 4 [(3, .int i), (2, .ref y), (1, .ref x), (0, .ref b)]) (kk : lwK p l e s m below meth c b E L K τ σ x y cells slots i) : W p l e room_1 s m #[Value.ref b] below meth c H locs cells slots (lw_Z below #[Value.ref b] s) (F0 m 838 ls []) := by
  have C := Z.1
  have hx := C.1
  have hb := C.2.1
  have hbA : ¬ (fun q : Nat => s.heap.size ≤ q) b := Nat.not_le.mpr Z.2.2.2
  obtain ⟨hJ, vw, vm, hw, hw0, hm0⟩ := id hD
  refine lv_aload_n hx hb dL_law_838 rfl (lv_at hl 2 rfl) ?_
  refine t_ViG C hO hl.1 (fun _ h => h) hG hX.1 (As := []) (rest := []) (t_X9_income l E J τ L f hX.1 hX.2.1 hX.2.2.1) my_X9_income wd1393 hX.2.1 hX.2.2.1 td_0 rfl rfl rfl (Nat.le_of_ble_eq_true rfl) ⟨(Nat.le_of_ble_eq_true rfl), (Nat.le_of_ble_eq_true rfl)⟩ ⟨rfl, rfl⟩ ⟨hc, hs⟩ dL_law_839 (fun r1 L1 f1 H locs hp hG => ?_)
  obtain ⟨rfl, s1, h1⟩ := hp
  have hX0_ := hX
  have hX := hX.S s1
  have hG := hG.swap
  refine lv_pop hx hb dL_law_842 rfl ?_
  refine lv_aload_n hx hb dL_law_843 rfl (lv_at hl 1 rfl) ?_
  obtain ⟨vl, vh, hl0, hh, hRR⟩ := id hY.2.2.2.2
  refine t_ViG C hO hl.1 (fun _ h => h) hG hY.1 (As := []) (rest := []) (t_X10_income l E J σ K k hY.1 hY.2.1 hY.2.2.1 hl0 hh (hRR 0 (by decide))) my_X10_income wd1397 hY.2.1 hY.2.2.1 td_40 rfl rfl rfl (Nat.le_of_ble_eq_true rfl) ⟨(Nat.le_of_ble_eq_true rfl), (Nat.le_of_ble_eq_true rfl)⟩ ⟨rfl, rfl⟩ ⟨hc, hs⟩ dL_law_844 (fun r2 K1 k1 H locs hp hG => ?_)
  obtain ⟨rfl, s2, h2⟩ := hp
  have hY := hY.S s2 rfl rfl
  have hG := hG.swap
  refine lv_pop hx hb dL_law_847 rfl ?_
  refine lv_goto (tgt := 2118) hx hb dL_law_848 (by decide) ?_
  exact kk _ _ _ _ _ hG hX hY (hD.S s1 s2 hX0_ rfl rfl rfl rfl) hl
set_option maxHeartbeats 4000000 in
set_option maxRecDepth 100000 in
theorem law_21 {p : Program} {l : Launch} {e : Env} {s : State} {m : MethodId} {below : List Frame} {meth : Method} {c : Code} {b n : Nat} {sc : Nat → Int32} {E : gE} {J : Nat → Nat} {L K : List Nat} {τ σ : Nat → Nat} {f k : gF} {x y : Nat} {H : Heap} {locs : List Loc} {cells slots : Nat} {ls : Array Slot} {i : Int32} (Z : gLw E p s m meth c b n sc) (hO : oW J (fun q : Nat => s.heap.size ≤ q) s s.heap) (hn : n ≤ 3072) (hc : cells ≤ 600000) (hs : slots ≤ 7302249) (h0 : 0 ≤ i.toInt) (h6 : i.toInt + 6 ≤ (n : Int)) (hG : gG E (fun q : Nat => s.heap.size ≤ q) L f K k s.heap H locs) (hX : iX E L τ f x) (hY : iY E K σ k y) (hD : rel E L τ f x K σ k) (hl : lv_has ls 4 [(3, .int i), (2, .ref y), (1, .ref x), (0, .ref b)]) (kk : lwK p l e s m below meth c b E L K τ σ x y cells slots i) : W p l e room_1 s m #[Value.ref b] below meth c H locs cells slots (lw_Z below #[Value.ref b] s) (F0 m 851 ls []) := by
  have C := Z.1
  have hx := C.1
  have hb := C.2.1
  have hbA : ¬ (fun q : Nat => s.heap.size ≤ q) b := Nat.not_le.mpr Z.2.2.2
  obtain ⟨hJ, vw, vm, hw, hw0, hm0⟩ := id hD
  refine lv_aload_n hx hb dL_law_851 rfl (lv_at hl 2 rfl) ?_
  refine t_ViG C hO hl.1 (fun _ h => h) hG hX.1 (As := []) (rest := []) (t_X9_unpaid l E J τ L f hX.1 hX.2.1 hX.2.2.1) my_X9_unpaid wd1401 hX.2.1 hX.2.2.1 td_0 rfl rfl rfl (Nat.le_of_ble_eq_true rfl) ⟨(Nat.le_of_ble_eq_true rfl), (Nat.le_of_ble_eq_true rfl)⟩ ⟨rfl, rfl⟩ ⟨hc, hs⟩ dL_law_852 (fun r1 L1 f1 H locs hp hG => ?_)
  obtain ⟨rfl, s1, h1⟩ := hp
  have hX0_ := hX
  have hX := hX.S s1
  have hG := hG.swap
  refine lv_pop hx hb dL_law_855 rfl ?_
  refine lv_aload_n hx hb dL_law_856 rfl (lv_at hl 1 rfl) ?_
  obtain ⟨vl, vh, hl0, hh, hRR⟩ := id hY.2.2.2.2
  refine t_ViG C hO hl.1 (fun _ h => h) hG hY.1 (As := []) (rest := []) (t_X10_unpaid l E J σ K k hY.1 hY.2.1 hY.2.2.1 hl0 hh (hRR 0 (by decide))) my_X10_unpaid wd1405 hY.2.1 hY.2.2.1 td_40 rfl rfl rfl (Nat.le_of_ble_eq_true rfl) ⟨(Nat.le_of_ble_eq_true rfl), (Nat.le_of_ble_eq_true rfl)⟩ ⟨rfl, rfl⟩ ⟨hc, hs⟩ dL_law_857 (fun r2 K1 k1 H locs hp hG => ?_)
  obtain ⟨rfl, s2, h2⟩ := hp
  have hY := hY.S s2 rfl rfl
  have hG := hG.swap
  refine lv_pop hx hb dL_law_860 rfl ?_
  refine lv_goto (tgt := 2118) hx hb dL_law_861 (by decide) ?_
  exact kk _ _ _ _ _ hG hX hY (hD.S s1 s2 hX0_ rfl rfl rfl rfl) hl
set_option maxHeartbeats 4000000 in
set_option maxRecDepth 100000 in
theorem law_22 {p : Program} {l : Launch} {e : Env} {s : State} {m : MethodId} {below : List Frame} {meth : Method} {c : Code} {b n : Nat} {sc : Nat → Int32} {E : gE} {J : Nat → Nat} {L K : List Nat} {τ σ : Nat → Nat} {f k : gF} {x y : Nat} {H : Heap} {locs : List Loc} {cells slots : Nat} {ls : Array Slot} {i : Int32} (Z : gLw E p s m meth c b n sc) (hO : oW J (fun q : Nat => s.heap.size ≤ q) s s.heap) (hn : n ≤ 3072) (hc : cells ≤ 600000) (hs : slots ≤ 7302249) (h0 : 0 ≤ i.toInt) (h6 : i.toInt + 6 ≤ (n : Int)) (hG : gG E (fun q : Nat => s.heap.size ≤ q) L f K k s.heap H locs) (hX : iX E L τ f x) (hY : iY E K σ k y) (hD : rel E L τ f x K σ k) (hl : lv_has ls 4 [(3, .int i), (2, .ref y), (1, .ref x), (0, .ref b)]) (kk : lwK p l e s m below meth c b E L K τ σ x y cells slots i) : W p l e room_1 s m #[Value.ref b] below meth c H locs cells slots (lw_Z below #[Value.ref b] s) (F0 m 864 ls []) := by
  have C := Z.1
  have hx := C.1
  have hb := C.2.1
  have hbA : ¬ (fun q : Nat => s.heap.size ≤ q) b := Nat.not_le.mpr Z.2.2.2
  obtain ⟨hJ, vw, vm, hw, hw0, hm0⟩ := id hD
  refine lv_aload_n hx hb dL_law_864 rfl (lv_at hl 2 rfl) ?_
  refine t_ViG C hO hl.1 (fun _ h => h) hG hX.1 (As := []) (rest := []) (t_X9_first l E J τ L f hX.1 hX.2.1 hX.2.2.1) my_X9_first wd1409 hX.2.1 hX.2.2.1 td_0 rfl rfl rfl (Nat.le_of_ble_eq_true rfl) ⟨(Nat.le_of_ble_eq_true rfl), (Nat.le_of_ble_eq_true rfl)⟩ ⟨rfl, rfl⟩ ⟨hc, hs⟩ dL_law_865 (fun r1 L1 f1 H locs hp hG => ?_)
  obtain ⟨rfl, s1, h1⟩ := hp
  have hX0_ := hX
  have hX := hX.S s1
  have hG := hG.swap
  refine lv_pop hx hb dL_law_868 rfl ?_
  refine lv_aload_n hx hb dL_law_869 rfl (lv_at hl 1 rfl) ?_
  obtain ⟨vl, vh, hl0, hh, hRR⟩ := id hY.2.2.2.2
  refine t_ViG C hO hl.1 (fun _ h => h) hG hY.1 (As := []) (rest := []) (t_X10_first l E J σ K k hY.1 hY.2.1 hY.2.2.1 hl0 hh (hRR 0 (by decide))) my_X10_first wd1413 hY.2.1 hY.2.2.1 td_40 rfl rfl rfl (Nat.le_of_ble_eq_true rfl) ⟨(Nat.le_of_ble_eq_true rfl), (Nat.le_of_ble_eq_true rfl)⟩ ⟨rfl, rfl⟩ ⟨hc, hs⟩ dL_law_870 (fun r2 K1 k1 H locs hp hG => ?_)
  obtain ⟨rfl, s2, h2⟩ := hp
  have hY := hY.S s2 rfl rfl
  have hG := hG.swap
  refine lv_pop hx hb dL_law_873 rfl ?_
  refine lv_goto (tgt := 2118) hx hb dL_law_874 (by decide) ?_
  exact kk _ _ _ _ _ hG hX hY (hD.S s1 s2 hX0_ rfl rfl rfl rfl) hl
set_option maxHeartbeats 4000000 in
set_option maxRecDepth 100000 in
theorem law_23 {p : Program} {l : Launch} {e : Env} {s : State} {m : MethodId} {below : List Frame} {meth : Method} {c : Code} {b n : Nat} {sc : Nat → Int32} {E : gE} {J : Nat → Nat} {L K : List Nat} {τ σ : Nat → Nat} {f k : gF} {x y : Nat} {H : Heap} {locs : List Loc} {cells slots : Nat} {ls : Array Slot} {i : Int32} (Z : gLw E p s m meth c b n sc) (hO : oW J (fun q : Nat => s.heap.size ≤ q) s s.heap) (hn : n ≤ 3072) (hc : cells ≤ 600000) (hs : slots ≤ 7302249) (h0 : 0 ≤ i.toInt) (h6 : i.toInt + 6 ≤ (n : Int)) (hG : gG E (fun q : Nat => s.heap.size ≤ q) L f K k s.heap H locs) (hX : iX E L τ f x) (hY : iY E K σ k y) (hD : rel E L τ f x K σ k) (hl : lv_has ls 4 [(3, .int i), (2, .ref y), (1, .ref x), (0, .ref b)]) (kk : lwK p l e s m below meth c b E L K τ σ x y cells slots i) : W p l e room_1 s m #[Value.ref b] below meth c H locs cells slots (lw_Z below #[Value.ref b] s) (F0 m 877 ls []) := by
  have C := Z.1
  have hx := C.1
  have hb := C.2.1
  have hbA : ¬ (fun q : Nat => s.heap.size ≤ q) b := Nat.not_le.mpr Z.2.2.2
  obtain ⟨hJ, vw, vm, hw, hw0, hm0⟩ := id hD
  refine lv_aload_n hx hb dL_law_877 rfl (lv_at hl 2 rfl) ?_
  refine t_ViG C hO hl.1 (fun _ h => h) hG hX.1 (As := []) (rest := []) (t_X9_lacks l E J τ L f hX.1 hX.2.1 hX.2.2.1) my_X9_lacks wd1417 hX.2.1 hX.2.2.1 td_0 rfl rfl rfl (Nat.le_of_ble_eq_true rfl) ⟨(Nat.le_of_ble_eq_true rfl), (Nat.le_of_ble_eq_true rfl)⟩ ⟨rfl, rfl⟩ ⟨hc, hs⟩ dL_law_878 (fun r1 L1 f1 H locs hp hG => ?_)
  obtain ⟨rfl, s1, h1⟩ := hp
  have hX0_ := hX
  have hX := hX.S s1
  have hG := hG.swap
  refine lv_pop hx hb dL_law_881 rfl ?_
  refine lv_aload_n hx hb dL_law_882 rfl (lv_at hl 1 rfl) ?_
  obtain ⟨vl, vh, hl0, hh, hRR⟩ := id hY.2.2.2.2
  refine t_ViG C hO hl.1 (fun _ h => h) hG hY.1 (As := []) (rest := []) (t_X10_lacks l E J σ K k hY.1 hY.2.1 hY.2.2.1 hl0 hh (hRR 0 (by decide))) my_X10_lacks wd1421 hY.2.1 hY.2.2.1 td_40 rfl rfl rfl (Nat.le_of_ble_eq_true rfl) ⟨(Nat.le_of_ble_eq_true rfl), (Nat.le_of_ble_eq_true rfl)⟩ ⟨rfl, rfl⟩ ⟨hc, hs⟩ dL_law_883 (fun r2 K1 k1 H locs hp hG => ?_)
  obtain ⟨rfl, s2, h2⟩ := hp
  have hY := hY.S s2 rfl rfl
  have hG := hG.swap
  refine lv_pop hx hb dL_law_886 rfl ?_
  refine lv_goto (tgt := 2118) hx hb dL_law_887 (by decide) ?_
  exact kk _ _ _ _ _ hG hX hY (hD.S s1 s2 hX0_ rfl rfl rfl rfl) hl
set_option maxHeartbeats 4000000 in
set_option maxRecDepth 100000 in
theorem law_24 {p : Program} {l : Launch} {e : Env} {s : State} {m : MethodId} {below : List Frame} {meth : Method} {c : Code} {b n : Nat} {sc : Nat → Int32} {E : gE} {J : Nat → Nat} {L K : List Nat} {τ σ : Nat → Nat} {f k : gF} {x y : Nat} {H : Heap} {locs : List Loc} {cells slots : Nat} {ls : Array Slot} {i : Int32} (Z : gLw E p s m meth c b n sc) (hO : oW J (fun q : Nat => s.heap.size ≤ q) s s.heap) (hn : n ≤ 3072) (hc : cells ≤ 600000) (hs : slots ≤ 7302249) (h0 : 0 ≤ i.toInt) (h6 : i.toInt + 6 ≤ (n : Int)) (hG : gG E (fun q : Nat => s.heap.size ≤ q) L f K k s.heap H locs) (hX : iX E L τ f x) (hY : iY E K σ k y) (hD : rel E L τ f x K σ k) (hl : lv_has ls 4 [(3, .int i), (2, .ref y), (1, .ref x), (0, .ref b)]) (kk : lwK p l e s m below meth c b E L K τ σ x y cells slots i) : W p l e room_1 s m #[Value.ref b] below meth c H locs cells slots (lw_Z below #[Value.ref b] s) (F0 m 890 ls []) := by
  have C := Z.1
  have hx := C.1
  have hb := C.2.1
  have hbA : ¬ (fun q : Nat => s.heap.size ≤ q) b := Nat.not_le.mpr Z.2.2.2
  obtain ⟨hJ, vw, vm, hw, hw0, hm0⟩ := id hD
  refine lv_aload_n hx hb dL_law_890 rfl (lv_at hl 2 rfl) ?_
  refine lv_aload_n hx hb dL_law_891 rfl (lv_at hl 3 rfl) ?_
  refine lv_iload_n hx hb dL_law_892 rfl (lv_at hl 0 rfl) ?_
  refine lv_iconst (v := (1 : Int32)) hx hb dL_law_893 (by decide) ?_
  refine lv_iadd hx hb dL_law_894 ?_
  refine va_sld hx hb Z.2.2.1 Z.2.2.2 hbA hG.1.2.2 (lw_in h0 h6 hn (by decide)) dL_law_895 ?_
  refine t_ViG C hO hl.1 (fun _ h => h) hG hX.1 (As := [.int (sc (i + (1 : Int32)).toNatClampNeg)]) (rest := []) (t_X9_near l E J τ L f hX.1 hX.2.1 hX.2.2.1 (sc (i + (1 : Int32)).toNatClampNeg)) my_X9_near wd1425 hX.2.1 hX.2.2.1 td_0 rfl rfl rfl (Nat.le_of_ble_eq_true rfl) ⟨(Nat.le_of_ble_eq_true rfl), (Nat.le_of_ble_eq_true rfl)⟩ ⟨rfl, rfl⟩ ⟨hc, hs⟩ dL_law_896 (fun r1 L1 f1 H locs hp hG => ?_)
  obtain ⟨rfl, s1, h1⟩ := hp
  have hX0_ := hX
  have hX := hX.S s1
  have hG := hG.swap
  refine lv_pop hx hb dL_law_899 rfl ?_
  refine lv_aload_n hx hb dL_law_900 rfl (lv_at hl 1 rfl) ?_
  refine lv_aload_n hx hb dL_law_901 rfl (lv_at hl 3 rfl) ?_
  refine lv_iload_n hx hb dL_law_902 rfl (lv_at hl 0 rfl) ?_
  refine lv_iconst (v := (1 : Int32)) hx hb dL_law_903 (by decide) ?_
  refine lv_iadd hx hb dL_law_904 ?_
  refine va_sld hx hb Z.2.2.1 Z.2.2.2 hbA hG.1.2.2 (lw_in h0 h6 hn (by decide)) dL_law_905 ?_
  obtain ⟨vl, vh, hl0, hh, hRR⟩ := id hY.2.2.2.2
  refine t_ViG C hO hl.1 (fun _ h => h) hG hY.1 (As := [.int (sc (i + (1 : Int32)).toNatClampNeg)]) (rest := []) (t_X10_near l E J σ K k hY.1 hY.2.1 hY.2.2.1 (sc (i + (1 : Int32)).toNatClampNeg) hl0 hh (hRR 0 (by decide))) my_X10_near wd1429 hY.2.1 hY.2.2.1 td_40 rfl rfl rfl (Nat.le_of_ble_eq_true rfl) ⟨(Nat.le_of_ble_eq_true rfl), (Nat.le_of_ble_eq_true rfl)⟩ ⟨rfl, rfl⟩ ⟨hc, hs⟩ dL_law_906 (fun r2 K1 k1 H locs hp hG => ?_)
  obtain ⟨rfl, s2, h2⟩ := hp
  have hY := hY.S s2 rfl rfl
  have hG := hG.swap
  refine lv_pop hx hb dL_law_909 rfl ?_
  refine lv_goto (tgt := 2118) hx hb dL_law_910 (by decide) ?_
  exact kk _ _ _ _ _ hG hX hY (hD.S s1 s2 hX0_ rfl rfl rfl rfl) hl
set_option maxHeartbeats 4000000 in
set_option maxRecDepth 100000 in
theorem law_25 {p : Program} {l : Launch} {e : Env} {s : State} {m : MethodId} {below : List Frame} {meth : Method} {c : Code} {b n : Nat} {sc : Nat → Int32} {E : gE} {J : Nat → Nat} {L K : List Nat} {τ σ : Nat → Nat} {f k : gF} {x y : Nat} {H : Heap} {locs : List Loc} {cells slots : Nat} {ls : Array Slot} {i : Int32} (Z : gLw E p s m meth c b n sc) (hO : oW J (fun q : Nat => s.heap.size ≤ q) s s.heap) (hn : n ≤ 3072) (hc : cells ≤ 600000) (hs : slots ≤ 7302249) (h0 : 0 ≤ i.toInt) (h6 : i.toInt + 6 ≤ (n : Int)) (hG : gG E (fun q : Nat => s.heap.size ≤ q) L f K k s.heap H locs) (hX : iX E L τ f x) (hY : iY E K σ k y) (hD : rel E L τ f x K σ k) (hl : lv_has ls 4 [(3, .int i), (2, .ref y), (1, .ref x), (0, .ref b)]) (kk : lwK p l e s m below meth c b E L K τ σ x y cells slots i) : W p l e room_1 s m #[Value.ref b] below meth c H locs cells slots (lw_Z below #[Value.ref b] s) (F0 m 913 ls []) := by
  have C := Z.1
  have hx := C.1
  have hb := C.2.1
  have hbA : ¬ (fun q : Nat => s.heap.size ≤ q) b := Nat.not_le.mpr Z.2.2.2
  obtain ⟨hJ, vw, vm, hw, hw0, hm0⟩ := id hD
  refine lv_aload_n hx hb dL_law_913 rfl (lv_at hl 2 rfl) ?_
  refine t_ViG C hO hl.1 (fun _ h => h) hG hX.1 (As := []) (rest := []) (t_X9_lone l E J τ L f hX.1 hX.2.1 hX.2.2.1) my_X9_lone wd1433 hX.2.1 hX.2.2.1 td_0 rfl rfl rfl (Nat.le_of_ble_eq_true rfl) ⟨(Nat.le_of_ble_eq_true rfl), (Nat.le_of_ble_eq_true rfl)⟩ ⟨rfl, rfl⟩ ⟨hc, hs⟩ dL_law_914 (fun r1 L1 f1 H locs hp hG => ?_)
  obtain ⟨rfl, s1, h1⟩ := hp
  have hX0_ := hX
  have hX := hX.S s1
  have hG := hG.swap
  refine lv_pop hx hb dL_law_917 rfl ?_
  refine lv_aload_n hx hb dL_law_918 rfl (lv_at hl 1 rfl) ?_
  obtain ⟨vl, vh, hl0, hh, hRR⟩ := id hY.2.2.2.2
  refine t_ViG C hO hl.1 (fun _ h => h) hG hY.1 (As := []) (rest := []) (t_X10_lone l E J σ K k hY.1 hY.2.1 hY.2.2.1 hl0 hh (hRR 0 (by decide))) my_X10_lone wd1437 hY.2.1 hY.2.2.1 td_40 rfl rfl rfl (Nat.le_of_ble_eq_true rfl) ⟨(Nat.le_of_ble_eq_true rfl), (Nat.le_of_ble_eq_true rfl)⟩ ⟨rfl, rfl⟩ ⟨hc, hs⟩ dL_law_919 (fun r2 K1 k1 H locs hp hG => ?_)
  obtain ⟨rfl, s2, h2⟩ := hp
  have hY := hY.S s2 rfl rfl
  have hG := hG.swap
  refine lv_pop hx hb dL_law_922 rfl ?_
  refine lv_goto (tgt := 2118) hx hb dL_law_923 (by decide) ?_
  exact kk _ _ _ _ _ hG hX hY (hD.S s1 s2 hX0_ rfl rfl rfl rfl) hl
set_option maxHeartbeats 4000000 in
set_option maxRecDepth 100000 in
theorem law_26 {p : Program} {l : Launch} {e : Env} {s : State} {m : MethodId} {below : List Frame} {meth : Method} {c : Code} {b n : Nat} {sc : Nat → Int32} {E : gE} {J : Nat → Nat} {L K : List Nat} {τ σ : Nat → Nat} {f k : gF} {x y : Nat} {H : Heap} {locs : List Loc} {cells slots : Nat} {ls : Array Slot} {i : Int32} (Z : gLw E p s m meth c b n sc) (hO : oW J (fun q : Nat => s.heap.size ≤ q) s s.heap) (hn : n ≤ 3072) (hc : cells ≤ 600000) (hs : slots ≤ 7302249) (h0 : 0 ≤ i.toInt) (h6 : i.toInt + 6 ≤ (n : Int)) (hG : gG E (fun q : Nat => s.heap.size ≤ q) L f K k s.heap H locs) (hX : iX E L τ f x) (hY : iY E K σ k y) (hD : rel E L τ f x K σ k) (hl : lv_has ls 4 [(3, .int i), (2, .ref y), (1, .ref x), (0, .ref b)]) (kk : lwK p l e s m below meth c b E L K τ σ x y cells slots i) : W p l e room_1 s m #[Value.ref b] below meth c H locs cells slots (lw_Z below #[Value.ref b] s) (F0 m 926 ls []) := by
  have C := Z.1
  have hx := C.1
  have hb := C.2.1
  have hbA : ¬ (fun q : Nat => s.heap.size ≤ q) b := Nat.not_le.mpr Z.2.2.2
  obtain ⟨hJ, vw, vm, hw, hw0, hm0⟩ := id hD
  refine lv_aload_n hx hb dL_law_926 rfl (lv_at hl 2 rfl) ?_
  refine lv_aload_n hx hb dL_law_927 rfl (lv_at hl 3 rfl) ?_
  refine lv_iload_n hx hb dL_law_928 rfl (lv_at hl 0 rfl) ?_
  refine lv_iconst (v := (1 : Int32)) hx hb dL_law_929 (by decide) ?_
  refine lv_iadd hx hb dL_law_930 ?_
  refine va_sld hx hb Z.2.2.1 Z.2.2.2 hbA hG.1.2.2 (lw_in h0 h6 hn (by decide)) dL_law_931 ?_
  refine lv_aload_n hx hb dL_law_932 rfl (lv_at hl 3 rfl) ?_
  refine lv_iload_n hx hb dL_law_933 rfl (lv_at hl 0 rfl) ?_
  refine lv_iconst (v := (2 : Int32)) hx hb dL_law_934 (by decide) ?_
  refine lv_iadd hx hb dL_law_935 ?_
  refine va_sld hx hb Z.2.2.1 Z.2.2.2 hbA hG.1.2.2 (lw_in h0 h6 hn (by decide)) dL_law_936 ?_
  refine t_ViG C hO hl.1 (fun _ h => h) hG hX.1 (As := [.int (sc (i + (1 : Int32)).toNatClampNeg), .int (sc (i + (2 : Int32)).toNatClampNeg)]) (rest := []) (t_X9_meets l E J τ L f hX.1 hX.2.1 hX.2.2.1 (sc (i + (1 : Int32)).toNatClampNeg) (sc (i + (2 : Int32)).toNatClampNeg)) my_X9_meets wd1441 hX.2.1 hX.2.2.1 td_0 rfl rfl rfl (Nat.le_of_ble_eq_true rfl) ⟨(Nat.le_of_ble_eq_true rfl), (Nat.le_of_ble_eq_true rfl)⟩ ⟨rfl, rfl⟩ ⟨hc, hs⟩ dL_law_937 (fun r1 L1 f1 H locs hp hG => ?_)
  obtain ⟨rfl, s1, h1⟩ := hp
  have hX0_ := hX
  have hX := hX.S s1
  have hG := hG.swap
  refine lv_pop hx hb dL_law_940 rfl ?_
  refine lv_aload_n hx hb dL_law_941 rfl (lv_at hl 1 rfl) ?_
  refine lv_aload_n hx hb dL_law_942 rfl (lv_at hl 3 rfl) ?_
  refine lv_iload_n hx hb dL_law_943 rfl (lv_at hl 0 rfl) ?_
  refine lv_iconst (v := (1 : Int32)) hx hb dL_law_944 (by decide) ?_
  refine lv_iadd hx hb dL_law_945 ?_
  refine va_sld hx hb Z.2.2.1 Z.2.2.2 hbA hG.1.2.2 (lw_in h0 h6 hn (by decide)) dL_law_946 ?_
  refine lv_aload_n hx hb dL_law_947 rfl (lv_at hl 3 rfl) ?_
  refine lv_iload_n hx hb dL_law_948 rfl (lv_at hl 0 rfl) ?_
  refine lv_iconst (v := (2 : Int32)) hx hb dL_law_949 (by decide) ?_
  refine lv_iadd hx hb dL_law_950 ?_
  refine va_sld hx hb Z.2.2.1 Z.2.2.2 hbA hG.1.2.2 (lw_in h0 h6 hn (by decide)) dL_law_951 ?_
  obtain ⟨vl, vh, hl0, hh, hRR⟩ := id hY.2.2.2.2
  refine t_ViG C hO hl.1 (fun _ h => h) hG hY.1 (As := [.int (sc (i + (1 : Int32)).toNatClampNeg), .int (sc (i + (2 : Int32)).toNatClampNeg)]) (rest := []) (t_X10_meets l E J σ K k hY.1 hY.2.1 hY.2.2.1 (sc (i + (1 : Int32)).toNatClampNeg) (sc (i + (2 : Int32)).toNatClampNeg) hl0 hh (hRR 0 (by decide))) my_X10_meets wd1445 hY.2.1 hY.2.2.1 td_40 rfl rfl rfl (Nat.le_of_ble_eq_true rfl) ⟨(Nat.le_of_ble_eq_true rfl), (Nat.le_of_ble_eq_true rfl)⟩ ⟨rfl, rfl⟩ ⟨hc, hs⟩ dL_law_952 (fun r2 K1 k1 H locs hp hG => ?_)
  obtain ⟨rfl, s2, h2⟩ := hp
  have hY := hY.S s2 rfl rfl
  have hG := hG.swap
  refine lv_pop hx hb dL_law_955 rfl ?_
  refine lv_goto (tgt := 2118) hx hb dL_law_956 (by decide) ?_
  exact kk _ _ _ _ _ hG hX hY (hD.S s1 s2 hX0_ rfl rfl rfl rfl) hl
set_option maxHeartbeats 4000000 in
set_option maxRecDepth 100000 in
theorem law_27 {p : Program} {l : Launch} {e : Env} {s : State} {m : MethodId} {below : List Frame} {meth : Method} {c : Code} {b n : Nat} {sc : Nat → Int32} {E : gE} {J : Nat → Nat} {L K : List Nat} {τ σ : Nat → Nat} {f k : gF} {x y : Nat} {H : Heap} {locs : List Loc} {cells slots : Nat} {ls : Array Slot} {i : Int32} (Z : gLw E p s m meth c b n sc) (hO : oW J (fun q : Nat => s.heap.size ≤ q) s s.heap) (hn : n ≤ 3072) (hc : cells ≤ 600000) (hs : slots ≤ 7302249) (h0 : 0 ≤ i.toInt) (h6 : i.toInt + 6 ≤ (n : Int)) (hG : gG E (fun q : Nat => s.heap.size ≤ q) L f K k s.heap H locs) (hX : iX E L τ f x) (hY : iY E K σ k y) (hD : rel E L τ f x K σ k) (hl : lv_has ls 4 [(3, .int i), (2, .ref y), (1, .ref x), (0, .ref b)]) (kk : lwK p l e s m below meth c b E L K τ σ x y cells slots i) : W p l e room_1 s m #[Value.ref b] below meth c H locs cells slots (lw_Z below #[Value.ref b] s) (F0 m 959 ls []) := by
  have C := Z.1
  have hx := C.1
  have hb := C.2.1
  have hbA : ¬ (fun q : Nat => s.heap.size ≤ q) b := Nat.not_le.mpr Z.2.2.2
  obtain ⟨hJ, vw, vm, hw, hw0, hm0⟩ := id hD
  refine lv_aload_n hx hb dL_law_959 rfl (lv_at hl 2 rfl) ?_
  refine t_ViG C hO hl.1 (fun _ h => h) hG hX.1 (As := []) (rest := []) (t_X9_spare l E J τ L f hX.1 hX.2.1 hX.2.2.1) my_X9_spare wd1449 hX.2.1 hX.2.2.1 td_0 rfl rfl rfl (Nat.le_of_ble_eq_true rfl) ⟨(Nat.le_of_ble_eq_true rfl), (Nat.le_of_ble_eq_true rfl)⟩ ⟨rfl, rfl⟩ ⟨hc, hs⟩ dL_law_960 (fun r1 L1 f1 H locs hp hG => ?_)
  obtain ⟨rfl, s1, h1⟩ := hp
  have hX0_ := hX
  have hX := hX.S s1
  have hG := hG.swap
  refine lv_pop hx hb dL_law_963 rfl ?_
  refine lv_aload_n hx hb dL_law_964 rfl (lv_at hl 1 rfl) ?_
  obtain ⟨vl, vh, hl0, hh, hRR⟩ := id hY.2.2.2.2
  refine t_ViG C hO hl.1 (fun _ h => h) hG hY.1 (As := []) (rest := []) (t_X10_spare l E J σ K k hY.1 hY.2.1 hY.2.2.1 hl0 hh (hRR 0 (by decide))) my_X10_spare wd1453 hY.2.1 hY.2.2.1 td_40 rfl rfl rfl (Nat.le_of_ble_eq_true rfl) ⟨(Nat.le_of_ble_eq_true rfl), (Nat.le_of_ble_eq_true rfl)⟩ ⟨rfl, rfl⟩ ⟨hc, hs⟩ dL_law_965 (fun r2 K1 k1 H locs hp hG => ?_)
  obtain ⟨rfl, s2, h2⟩ := hp
  have hY := hY.S s2 rfl rfl
  have hG := hG.swap
  refine lv_pop hx hb dL_law_968 rfl ?_
  refine lv_goto (tgt := 2118) hx hb dL_law_969 (by decide) ?_
  exact kk _ _ _ _ _ hG hX hY (hD.S s1 s2 hX0_ rfl rfl rfl rfl) hl
