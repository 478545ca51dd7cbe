set_option maxHeartbeats 4000000 in
set_option maxRecDepth 100000 in
theorem law_56 {p : Program} {l : Launch} {e : Env} {s : State} {m : MethodId} {below : List Frame} {meth : Method} {c : Code} {b n : Nat} {sc : Nat → Int32} {E : gE} {J : Nat → Nat} {L K : List Nat} {τ σ : Nat → Nat} {f k : gF} {x y : Nat} {H : Heap} {locs : List Loc} {cells slots : Nat} {ls : Array Slot} {i : Int32} (Z : gLw E p s m meth c b n sc) (hO : oW J (fun q : Nat => s.heap.size ≤ q) s s.heap) (hn : n ≤ 3072) (hc : cells ≤ 600000) (hs : slots ≤ 7302249) (h0 : 0 ≤ i.toInt) (h6 : i.toInt + 6 ≤ (n : Int)) (hG : gG E (fun q : Nat => s.heap.size ≤ q) L f K k s.heap H locs) (hX : iX E L τ f x) (hY : iY E K σ k y) (hD : rel E L τ f x K σ k) (hl : lv_has ls 4 [(3, .int i), (2, .ref y), (1, .ref x), (0, .ref b)]) (kk : lwK p l e s m below meth c b E L K τ σ x y cells slots i) : W p l e room_1 s m #[Value.ref b] below meth c H locs cells slots (lw_Z below #[Value.ref b] s) (F0 m 1636 ls []) := by
  have C := Z.1
  have hx := C.1
  have hb := C.2.1
  have hbA : ¬ (fun q : Nat => s.heap.size ≤ q) b := Nat.not_le.mpr Z.2.2.2
  obtain ⟨hJ, vw, vm, hw, hw0, hm0⟩ := id hD
  refine lv_aload_n hx hb dL_law_1636 rfl (lv_at hl 2 rfl) ?_
  refine lv_aload_n hx hb dL_law_1637 rfl (lv_at hl 3 rfl) ?_
  refine lv_iload_n hx hb dL_law_1638 rfl (lv_at hl 0 rfl) ?_
  refine lv_iconst (v := (1 : Int32)) hx hb dL_law_1639 (by decide) ?_
  refine lv_iadd hx hb dL_law_1640 ?_
  refine va_sld hx hb Z.2.2.1 Z.2.2.2 hbA hG.1.2.2 (lw_in h0 h6 hn (by decide)) dL_law_1641 ?_
  refine lv_aload_n hx hb dL_law_1642 rfl (lv_at hl 3 rfl) ?_
  refine lv_iload_n hx hb dL_law_1643 rfl (lv_at hl 0 rfl) ?_
  refine lv_iconst (v := (2 : Int32)) hx hb dL_law_1644 (by decide) ?_
  refine lv_iadd hx hb dL_law_1645 ?_
  refine va_sld hx hb Z.2.2.1 Z.2.2.2 hbA hG.1.2.2 (lw_in h0 h6 hn (by decide)) dL_law_1646 ?_
  refine t_ViG C hO hl.1 (fun _ h => h) hG hX.1 (As := [.int (sc (i + (1 : Int32)).toNatClampNeg), .int (sc (i + (2 : Int32)).toNatClampNeg)]) (rest := []) (t_X9_flown l E J τ L f hX.1 hX.2.1 hX.2.2.1 (sc (i + (1 : Int32)).toNatClampNeg) (sc (i + (2 : Int32)).toNatClampNeg)) my_X9_flown wd1681 hX.2.1 hX.2.2.1 td_0 rfl rfl rfl (Nat.le_of_ble_eq_true rfl) ⟨(Nat.le_of_ble_eq_true rfl), (Nat.le_of_ble_eq_true rfl)⟩ ⟨rfl, rfl⟩ ⟨hc, hs⟩ dL_law_1647 (fun r1 L1 f1 H locs hp hG => ?_)
  obtain ⟨rfl, s1, h1⟩ := hp
  have hX0_ := hX
  have hX := hX.S s1
  have hG := hG.swap
  refine lv_pop hx hb dL_law_1650 rfl ?_
  refine lv_aload_n hx hb dL_law_1651 rfl (lv_at hl 1 rfl) ?_
  refine lv_aload_n hx hb dL_law_1652 rfl (lv_at hl 3 rfl) ?_
  refine lv_iload_n hx hb dL_law_1653 rfl (lv_at hl 0 rfl) ?_
  refine lv_iconst (v := (1 : Int32)) hx hb dL_law_1654 (by decide) ?_
  refine lv_iadd hx hb dL_law_1655 ?_
  refine va_sld hx hb Z.2.2.1 Z.2.2.2 hbA hG.1.2.2 (lw_in h0 h6 hn (by decide)) dL_law_1656 ?_
  refine lv_aload_n hx hb dL_law_1657 rfl (lv_at hl 3 rfl) ?_
  refine lv_iload_n hx hb dL_law_1658 rfl (lv_at hl 0 rfl) ?_
  refine lv_iconst (v := (2 : Int32)) hx hb dL_law_1659 (by decide) ?_
  refine lv_iadd hx hb dL_law_1660 ?_
  refine va_sld hx hb Z.2.2.1 Z.2.2.2 hbA hG.1.2.2 (lw_in h0 h6 hn (by decide)) dL_law_1661 ?_
  obtain ⟨vl, vh, hl0, hh, hRR⟩ := id hY.2.2.2.2
  refine t_ViG C hO hl.1 (fun _ h => h) hG hY.1 (As := [.int (sc (i + (1 : Int32)).toNatClampNeg), .int (sc (i + (2 : Int32)).toNatClampNeg)]) (rest := []) (t_X10_flown l E J σ K k hY.1 hY.2.1 hY.2.2.1 (sc (i + (1 : Int32)).toNatClampNeg) (sc (i + (2 : Int32)).toNatClampNeg) hl0 hh (hRR 0 (by decide))) my_X10_flown wd1685 hY.2.1 hY.2.2.1 td_40 rfl rfl rfl (Nat.le_of_ble_eq_true rfl) ⟨(Nat.le_of_ble_eq_true rfl), (Nat.le_of_ble_eq_true rfl)⟩ ⟨rfl, rfl⟩ ⟨hc, hs⟩ dL_law_1662 (fun r2 K1 k1 H locs hp hG => ?_)
  obtain ⟨rfl, s2, h2⟩ := hp
  have hY := hY.S s2 rfl rfl
  have hG := hG.swap
  refine lv_pop hx hb dL_law_1665 rfl ?_
  refine lv_goto (tgt := 2118) hx hb dL_law_1666 (by decide) ?_
  exact kk _ _ _ _ _ hG hX hY (hD.S s1 s2 hX0_ rfl rfl rfl rfl) hl
set_option maxHeartbeats 4000000 in
set_option maxRecDepth 100000 in
theorem law_57 {p : Program} {l : Launch} {e : Env} {s : State} {m : MethodId} {below : List Frame} {meth : Method} {c : Code} {b n : Nat} {sc : Nat → Int32} {E : gE} {J : Nat → Nat} {L K : List Nat} {τ σ : Nat → Nat} {f k : gF} {x y : Nat} {H : Heap} {locs : List Loc} {cells slots : Nat} {ls : Array Slot} {i : Int32} (Z : gLw E p s m meth c b n sc) (hO : oW J (fun q : Nat => s.heap.size ≤ q) s s.heap) (hn : n ≤ 3072) (hc : cells ≤ 600000) (hs : slots ≤ 7302249) (h0 : 0 ≤ i.toInt) (h6 : i.toInt + 6 ≤ (n : Int)) (hG : gG E (fun q : Nat => s.heap.size ≤ q) L f K k s.heap H locs) (hX : iX E L τ f x) (hY : iY E K σ k y) (hD : rel E L τ f x K σ k) (hl : lv_has ls 4 [(3, .int i), (2, .ref y), (1, .ref x), (0, .ref b)]) (kk : lwK p l e s m below meth c b E L K τ σ x y cells slots i) : W p l e room_1 s m #[Value.ref b] below meth c H locs cells slots (lw_Z below #[Value.ref b] s) (F0 m 1669 ls []) := by
  have C := Z.1
  have hx := C.1
  have hb := C.2.1
  have hbA : ¬ (fun q : Nat => s.heap.size ≤ q) b := Nat.not_le.mpr Z.2.2.2
  obtain ⟨hJ, vw, vm, hw, hw0, hm0⟩ := id hD
  refine lv_aload_n hx hb dL_law_1669 rfl (lv_at hl 2 rfl) ?_
  refine lv_aload_n hx hb dL_law_1670 rfl (lv_at hl 3 rfl) ?_
  refine lv_iload_n hx hb dL_law_1671 rfl (lv_at hl 0 rfl) ?_
  refine lv_iconst (v := (1 : Int32)) hx hb dL_law_1672 (by decide) ?_
  refine lv_iadd hx hb dL_law_1673 ?_
  refine va_sld hx hb Z.2.2.1 Z.2.2.2 hbA hG.1.2.2 (lw_in h0 h6 hn (by decide)) dL_law_1674 ?_
  refine lv_aload_n hx hb dL_law_1675 rfl (lv_at hl 3 rfl) ?_
  refine lv_iload_n hx hb dL_law_1676 rfl (lv_at hl 0 rfl) ?_
  refine lv_iconst (v := (2 : Int32)) hx hb dL_law_1677 (by decide) ?_
  refine lv_iadd hx hb dL_law_1678 ?_
  refine va_sld hx hb Z.2.2.1 Z.2.2.2 hbA hG.1.2.2 (lw_in h0 h6 hn (by decide)) dL_law_1679 ?_
  refine t_ViG C hO hl.1 (fun _ h => h) hG hX.1 (As := [.int (sc (i + (1 : Int32)).toNatClampNeg), .int (sc (i + (2 : Int32)).toNatClampNeg)]) (rest := []) (t_X9_light l E J τ L f hX.1 hX.2.1 hX.2.2.1 (sc (i + (1 : Int32)).toNatClampNeg) (sc (i + (2 : Int32)).toNatClampNeg)) my_X9_light wd1689 hX.2.1 hX.2.2.1 td_0 rfl rfl rfl (Nat.le_of_ble_eq_true rfl) ⟨(Nat.le_of_ble_eq_true rfl), (Nat.le_of_ble_eq_true rfl)⟩ ⟨rfl, rfl⟩ ⟨hc, hs⟩ dL_law_1680 (fun r1 L1 f1 H locs hp hG => ?_)
  obtain ⟨rfl, s1, h1⟩ := hp
  have hX0_ := hX
  have hX := hX.S s1
  have hG := hG.swap
  refine lv_pop hx hb dL_law_1683 rfl ?_
  refine lv_aload_n hx hb dL_law_1684 rfl (lv_at hl 1 rfl) ?_
  refine lv_aload_n hx hb dL_law_1685 rfl (lv_at hl 3 rfl) ?_
  refine lv_iload_n hx hb dL_law_1686 rfl (lv_at hl 0 rfl) ?_
  refine lv_iconst (v := (1 : Int32)) hx hb dL_law_1687 (by decide) ?_
  refine lv_iadd hx hb dL_law_1688 ?_
  refine va_sld hx hb Z.2.2.1 Z.2.2.2 hbA hG.1.2.2 (lw_in h0 h6 hn (by decide)) dL_law_1689 ?_
  refine lv_aload_n hx hb dL_law_1690 rfl (lv_at hl 3 rfl) ?_
  refine lv_iload_n hx hb dL_law_1691 rfl (lv_at hl 0 rfl) ?_
  refine lv_iconst (v := (2 : Int32)) hx hb dL_law_1692 (by decide) ?_
  refine lv_iadd hx hb dL_law_1693 ?_
  refine va_sld hx hb Z.2.2.1 Z.2.2.2 hbA hG.1.2.2 (lw_in h0 h6 hn (by decide)) dL_law_1694 ?_
  obtain ⟨vl, vh, hl0, hh, hRR⟩ := id hY.2.2.2.2
  refine t_ViG C hO hl.1 (fun _ h => h) hG hY.1 (As := [.int (sc (i + (1 : Int32)).toNatClampNeg), .int (sc (i + (2 : Int32)).toNatClampNeg)]) (rest := []) (t_X10_light l E J σ K k hY.1 hY.2.1 hY.2.2.1 (sc (i + (1 : Int32)).toNatClampNeg) (sc (i + (2 : Int32)).toNatClampNeg) hl0 hh (hY.uq 46) (hY.uq 47) hRR) my_X10_light wd1693 hY.2.1 hY.2.2.1 td_40 rfl rfl rfl (Nat.le_of_ble_eq_true rfl) ⟨(Nat.le_of_ble_eq_true rfl), (Nat.le_of_ble_eq_true rfl)⟩ ⟨rfl, rfl⟩ ⟨hc, hs⟩ dL_law_1695 (fun r2 K1 k1 H locs hp hG => ?_)
  obtain ⟨rfl, s2, h2⟩ := hp
  have hY := hY.W s2 h2.2
  have hG := hG.swap
  refine lv_pop hx hb dL_law_1698 rfl ?_
  refine lv_goto (tgt := 2118) hx hb dL_law_1699 (by decide) ?_
  exact kk _ _ _ _ _ hG hX hY (hD.S s1 s2 hX0_ rfl rfl rfl rfl) hl
set_option maxHeartbeats 4000000 in
set_option maxRecDepth 100000 in
theorem law_58 {p : Program} {l : Launch} {e : Env} {s : State} {m : MethodId} {below : List Frame} {meth : Method} {c : Code} {b n : Nat} {sc : Nat → Int32} {E : gE} {J : Nat → Nat} {L K : List Nat} {τ σ : Nat → Nat} {f k : gF} {x y : Nat} {H : Heap} {locs : List Loc} {cells slots : Nat} {ls : Array Slot} {i : Int32} (Z : gLw E p s m meth c b n sc) (hO : oW J (fun q : Nat => s.heap.size ≤ q) s s.heap) (hn : n ≤ 3072) (hc : cells ≤ 600000) (hs : slots ≤ 7302249) (h0 : 0 ≤ i.toInt) (h6 : i.toInt + 6 ≤ (n : Int)) (hG : gG E (fun q : Nat => s.heap.size ≤ q) L f K k s.heap H locs) (hX : iX E L τ f x) (hY : iY E K σ k y) (hD : rel E L τ f x K σ k) (hl : lv_has ls 4 [(3, .int i), (2, .ref y), (1, .ref x), (0, .ref b)]) (kk : lwK p l e s m below meth c b E L K τ σ x y cells slots i) : W p l e room_1 s m #[Value.ref b] below meth c H locs cells slots (lw_Z below #[Value.ref b] s) (F0 m 1702 ls []) := by
  have C := Z.1
  have hx := C.1
  have hb := C.2.1
  have hbA : ¬ (fun q : Nat => s.heap.size ≤ q) b := Nat.not_le.mpr Z.2.2.2
  obtain ⟨hJ, vw, vm, hw, hw0, hm0⟩ := id hD
  refine lv_aload_n hx hb dL_law_1702 rfl (lv_at hl 2 rfl) ?_
  refine lv_aload_n hx hb dL_law_1703 rfl (lv_at hl 3 rfl) ?_
  refine lv_iload_n hx hb dL_law_1704 rfl (lv_at hl 0 rfl) ?_
  refine lv_iconst (v := (1 : Int32)) hx hb dL_law_1705 (by decide) ?_
  refine lv_iadd hx hb dL_law_1706 ?_
  refine va_sld hx hb Z.2.2.1 Z.2.2.2 hbA hG.1.2.2 (lw_in h0 h6 hn (by decide)) dL_law_1707 ?_
  refine lv_aload_n hx hb dL_law_1708 rfl (lv_at hl 3 rfl) ?_
  refine lv_iload_n hx hb dL_law_1709 rfl (lv_at hl 0 rfl) ?_
  refine lv_iconst (v := (2 : Int32)) hx hb dL_law_1710 (by decide) ?_
  refine lv_iadd hx hb dL_law_1711 ?_
  refine va_sld hx hb Z.2.2.1 Z.2.2.2 hbA hG.1.2.2 (lw_in h0 h6 hn (by decide)) dL_law_1712 ?_
  refine t_ViG C hO hl.1 (fun _ h => h) hG hX.1 (As := [.int (sc (i + (1 : Int32)).toNatClampNeg), .int (sc (i + (2 : Int32)).toNatClampNeg)]) (rest := []) (t_X9_turn l E J τ L f hX.1 hX.2.1 hX.2.2.1 (sc (i + (1 : Int32)).toNatClampNeg) (sc (i + (2 : Int32)).toNatClampNeg)) my_X9_turn wd1697 hX.2.1 hX.2.2.1 td_0 rfl rfl rfl (Nat.le_of_ble_eq_true rfl) ⟨(Nat.le_of_ble_eq_true rfl), (Nat.le_of_ble_eq_true rfl)⟩ ⟨rfl, rfl⟩ ⟨hc, hs⟩ dL_law_1713 (fun r1 L1 f1 H locs hp hG => ?_)
  obtain ⟨rfl, s1, h1⟩ := hp
  have hX0_ := hX
  have hX := hX.S s1
  have hG := hG.swap
  refine lv_pop hx hb dL_law_1716 rfl ?_
  refine lv_aload_n hx hb dL_law_1717 rfl (lv_at hl 1 rfl) ?_
  refine lv_aload_n hx hb dL_law_1718 rfl (lv_at hl 3 rfl) ?_
  refine lv_iload_n hx hb dL_law_1719 rfl (lv_at hl 0 rfl) ?_
  refine lv_iconst (v := (1 : Int32)) hx hb dL_law_1720 (by decide) ?_
  refine lv_iadd hx hb dL_law_1721 ?_
  refine va_sld hx hb Z.2.2.1 Z.2.2.2 hbA hG.1.2.2 (lw_in h0 h6 hn (by decide)) dL_law_1722 ?_
  refine lv_aload_n hx hb dL_law_1723 rfl (lv_at hl 3 rfl) ?_
  refine lv_iload_n hx hb dL_law_1724 rfl (lv_at hl 0 rfl) ?_
  refine lv_iconst (v := (2 : Int32)) hx hb dL_law_1725 (by decide) ?_
  refine lv_iadd hx hb dL_law_1726 ?_
  refine va_sld hx hb Z.2.2.1 Z.2.2.2 hbA hG.1.2.2 (lw_in h0 h6 hn (by decide)) dL_law_1727 ?_
  obtain ⟨vl, vh, hl0, hh, hRR⟩ := id hY.2.2.2.2
  refine t_ViG C hO hl.1 (fun _ h => h) hG hY.1 (As := [.int (sc (i + (1 : Int32)).toNatClampNeg), .int (sc (i + (2 : Int32)).toNatClampNeg)]) (rest := []) (t_X10_turn l E J σ K k hY.1 hY.2.1 hY.2.2.1 (sc (i + (1 : Int32)).toNatClampNeg) (sc (i + (2 : Int32)).toNatClampNeg) hl0 hh (hY.uq 46) (hY.uq 47) hRR) my_X10_turn wd1701 hY.2.1 hY.2.2.1 td_40 rfl rfl rfl (Nat.le_of_ble_eq_true rfl) ⟨(Nat.le_of_ble_eq_true rfl), (Nat.le_of_ble_eq_true rfl)⟩ ⟨rfl, rfl⟩ ⟨hc, hs⟩ dL_law_1728 (fun r2 K1 k1 H locs hp hG => ?_)
  obtain ⟨rfl, s2, h2⟩ := hp
  have hY := hY.W s2 h2.2
  have hG := hG.swap
  refine lv_pop hx hb dL_law_1731 rfl ?_
  refine lv_goto (tgt := 2118) hx hb dL_law_1732 (by decide) ?_
  exact kk _ _ _ _ _ hG hX hY (hD.S s1 s2 hX0_ rfl rfl rfl rfl) hl
set_option maxHeartbeats 4000000 in
set_option maxRecDepth 100000 in
theorem law_59 {p : Program} {l : Launch} {e : Env} {s : State} {m : MethodId} {below : List Frame} {meth : Method} {c : Code} {b n : Nat} {sc : Nat → Int32} {E : gE} {J : Nat → Nat} {L K : List Nat} {τ σ : Nat → Nat} {f k : gF} {x y : Nat} {H : Heap} {locs : List Loc} {cells slots : Nat} {ls : Array Slot} {i : Int32} (Z : gLw E p s m meth c b n sc) (hO : oW J (fun q : Nat => s.heap.size ≤ q) s s.heap) (hn : n ≤ 3072) (hc : cells ≤ 600000) (hs : slots ≤ 7302249) (h0 : 0 ≤ i.toInt) (h6 : i.toInt + 6 ≤ (n : Int)) (hG : gG E (fun q : Nat => s.heap.size ≤ q) L f K k s.heap H locs) (hX : iX E L τ f x) (hY : iY E K σ k y) (hD : rel E L τ f x K σ k) (hl : lv_has ls 4 [(3, .int i), (2, .ref y), (1, .ref x), (0, .ref b)]) (kk : lwK p l e s m below meth c b E L K τ σ x y cells slots i) : W p l e room_1 s m #[Value.ref b] below meth c H locs cells slots (lw_Z below #[Value.ref b] s) (F0 m 1735 ls []) := by
  have C := Z.1
  have hx := C.1
  have hb := C.2.1
  have hbA : ¬ (fun q : Nat => s.heap.size ≤ q) b := Nat.not_le.mpr Z.2.2.2
  obtain ⟨hJ, vw, vm, hw, hw0, hm0⟩ := id hD
  refine lv_aload_n hx hb dL_law_1735 rfl (lv_at hl 2 rfl) ?_
  refine t_ViG C hO hl.1 (fun _ h => h) hG hX.1 (As := []) (rest := []) (t_X9_undo l E J τ L f hX.1 hX.2.1 hX.2.2.1) my_X9_undo wd1705 hX.2.1 hX.2.2.1 td_0 rfl rfl rfl (Nat.le_of_ble_eq_true rfl) ⟨(Nat.le_of_ble_eq_true rfl), (Nat.le_of_ble_eq_true rfl)⟩ ⟨rfl, rfl⟩ ⟨hc, hs⟩ dL_law_1736 (fun r1 L1 f1 H locs hp hG => ?_)
  obtain ⟨rfl, s1, h1⟩ := hp
  have hX0_ := hX
  have hX := hX.S s1
  have hG := hG.swap
  refine lv_pop hx hb dL_law_1739 rfl ?_
  refine lv_aload_n hx hb dL_law_1740 rfl (lv_at hl 1 rfl) ?_
  obtain ⟨vl, vh, hl0, hh, hRR⟩ := id hY.2.2.2.2
  refine t_ViG C hO hl.1 (fun _ h => h) hG hY.1 (As := []) (rest := []) (t_X10_undo l E J σ K k hY.1 hY.2.1 hY.2.2.1 hl0 hh (hY.uq 46) (hY.uq 47) hRR) my_X10_undo wd1709 hY.2.1 hY.2.2.1 td_40 rfl rfl rfl (Nat.le_of_ble_eq_true rfl) ⟨(Nat.le_of_ble_eq_true rfl), (Nat.le_of_ble_eq_true rfl)⟩ ⟨rfl, rfl⟩ ⟨hc, hs⟩ dL_law_1741 (fun r2 K1 k1 H locs hp hG => ?_)
  obtain ⟨rfl, s2, h2⟩ := hp
  have hY := hY.W s2 h2.2
  have hG := hG.swap
  refine lv_pop hx hb dL_law_1744 rfl ?_
  refine lv_goto (tgt := 2118) hx hb dL_law_1745 (by decide) ?_
  exact kk _ _ _ _ _ hG hX hY (hD.S s1 s2 hX0_ rfl rfl rfl rfl) hl
set_option maxHeartbeats 4000000 in
set_option maxRecDepth 100000 in
theorem law_60 {p : Program} {l : Launch} {e : Env} {s : State} {m : MethodId} {below : List Frame} {meth : Method} {c : Code} {b n : Nat} {sc : Nat → Int32} {E : gE} {J : Nat → Nat} {L K : List Nat} {τ σ : Nat → Nat} {f k : gF} {x y : Nat} {H : Heap} {locs : List Loc} {cells slots : Nat} {ls : Array Slot} {i : Int32} (Z : gLw E p s m meth c b n sc) (hO : oW J (fun q : Nat => s.heap.size ≤ q) s s.heap) (hn : n ≤ 3072) (hc : cells ≤ 600000) (hs : slots ≤ 7302249) (h0 : 0 ≤ i.toInt) (h6 : i.toInt + 6 ≤ (n : Int)) (hG : gG E (fun q : Nat => s.heap.size ≤ q) L f K k s.heap H locs) (hX : iX E L τ f x) (hY : iY E K σ k y) (hD : rel E L τ f x K σ k) (hl : lv_has ls 4 [(3, .int i), (2, .ref y), (1, .ref x), (0, .ref b)]) (kk : lwK p l e s m below meth c b E L K τ σ x y cells slots i) : W p l e room_1 s m #[Value.ref b] below meth c H locs cells slots (lw_Z below #[Value.ref b] s) (F0 m 1748 ls []) := by
  have C := Z.1
  have hx := C.1
  have hb := C.2.1
  have hbA : ¬ (fun q : Nat => s.heap.size ≤ q) b := Nat.not_le.mpr Z.2.2.2
  obtain ⟨hJ, vw, vm, hw, hw0, hm0⟩ := id hD
  refine lv_aload_n hx hb dL_law_1748 rfl (lv_at hl 2 rfl) ?_
  refine t_ViG C hO hl.1 (fun _ h => h) hG hX.1 (As := []) (rest := []) (t_X9_anew l E J τ L f hX.1 hX.2.1 hX.2.2.1) my_X9_anew wd1713 hX.2.1 hX.2.2.1 td_0 rfl rfl rfl (Nat.le_of_ble_eq_true rfl) ⟨(Nat.le_of_ble_eq_true rfl), (Nat.le_of_ble_eq_true rfl)⟩ ⟨rfl, rfl⟩ ⟨hc, hs⟩ dL_law_1749 (fun r1 L1 f1 H locs hp hG => ?_)
  obtain ⟨rfl, s1, h1⟩ := hp
  have hX0_ := hX
  have hX := hX.S s1
  have hG := hG.swap
  refine lv_pop hx hb dL_law_1752 rfl ?_
  refine lv_aload_n hx hb dL_law_1753 rfl (lv_at hl 1 rfl) ?_
  obtain ⟨vl, vh, hl0, hh, hRR⟩ := id hY.2.2.2.2
  refine t_ViG C hO hl.1 (fun _ h => h) hG hY.1 (As := []) (rest := []) (t_X10_anew l E J σ K k hY.1 hY.2.1 hY.2.2.1 hl0 hh (hY.uq 46) (hY.uq 47) hRR) my_X10_anew wd1717 hY.2.1 hY.2.2.1 td_40 rfl rfl rfl (Nat.le_of_ble_eq_true rfl) ⟨(Nat.le_of_ble_eq_true rfl), (Nat.le_of_ble_eq_true rfl)⟩ ⟨rfl, rfl⟩ ⟨hc, hs⟩ dL_law_1754 (fun r2 K1 k1 H locs hp hG => ?_)
  obtain ⟨rfl, s2, h2⟩ := hp
  have hY := hY.W s2 h2.2
  have hG := hG.swap
  refine lv_pop hx hb dL_law_1757 rfl ?_
  refine lv_goto (tgt := 2118) hx hb dL_law_1758 (by decide) ?_
  exact kk _ _ _ _ _ hG hX hY (hD.S s1 s2 hX0_ rfl rfl rfl rfl) hl
set_option maxHeartbeats 4000000 in
set_option maxRecDepth 100000 in
theorem law_61 {p : Program} {l : Launch} {e : Env} {s : State} {m : MethodId} {below : List Frame} {meth : Method} {c : Code} {b n : Nat} {sc : Nat → Int32} {E : gE} {J : Nat → Nat} {L K : List Nat} {τ σ : Nat → Nat} {f k : gF} {x y : Nat} {H : Heap} {locs : List Loc} {cells slots : Nat} {ls : Array Slot} {i : Int32} (Z : gLw E p s m meth c b n sc) (hO : oW J (fun q : Nat => s.heap.size ≤ q) s s.heap) (hn : n ≤ 3072) (hc : cells ≤ 600000) (hs : slots ≤ 7302249) (h0 : 0 ≤ i.toInt) (h6 : i.toInt + 6 ≤ (n : Int)) (hG : gG E (fun q : Nat => s.heap.size ≤ q) L f K k s.heap H locs) (hX : iX E L τ f x) (hY : iY E K σ k y) (hD : rel E L τ f x K σ k) (hl : lv_has ls 4 [(3, .int i), (2, .ref y), (1, .ref x), (0, .ref b)]) (kk : lwK p l e s m below meth c b E L K τ σ x y cells slots i) : W p l e room_1 s m #[Value.ref b] below meth c H locs cells slots (lw_Z below #[Value.ref b] s) (F0 m 1761 ls []) := by
  have C := Z.1
  have hx := C.1
  have hb := C.2.1
  have hbA : ¬ (fun q : Nat => s.heap.size ≤ q) b := Nat.not_le.mpr Z.2.2.2
  obtain ⟨hJ, vw, vm, hw, hw0, hm0⟩ := id hD
  refine lv_aload_n hx hb dL_law_1761 rfl (lv_at hl 2 rfl) ?_
  refine lv_aload_n hx hb dL_law_1762 rfl (lv_at hl 3 rfl) ?_
  refine lv_iload_n hx hb dL_law_1763 rfl (lv_at hl 0 rfl) ?_
  refine lv_iconst (v := (1 : Int32)) hx hb dL_law_1764 (by decide) ?_
  refine lv_iadd hx hb dL_law_1765 ?_
  refine va_sld hx hb Z.2.2.1 Z.2.2.2 hbA hG.1.2.2 (lw_in h0 h6 hn (by decide)) dL_law_1766 ?_
  refine lv_aload_n hx hb dL_law_1767 rfl (lv_at hl 3 rfl) ?_
  refine lv_iload_n hx hb dL_law_1768 rfl (lv_at hl 0 rfl) ?_
  refine lv_iconst (v := (2 : Int32)) hx hb dL_law_1769 (by decide) ?_
  refine lv_iadd hx hb dL_law_1770 ?_
  refine va_sld hx hb Z.2.2.1 Z.2.2.2 hbA hG.1.2.2 (lw_in h0 h6 hn (by decide)) dL_law_1771 ?_
  refine t_ViG C hO hl.1 (fun _ h => h) hG hX.1 (As := [.int (sc (i + (1 : Int32)).toNatClampNeg), .int (sc (i + (2 : Int32)).toNatClampNeg)]) (rest := []) (t_X9_drawn l E J τ L f hX.1 hX.2.1 hX.2.2.1 (sc (i + (1 : Int32)).toNatClampNeg) (sc (i + (2 : Int32)).toNatClampNeg)) my_X9_drawn wd1721 hX.2.1 hX.2.2.1 td_0 rfl rfl rfl (Nat.le_of_ble_eq_true rfl) ⟨(Nat.le_of_ble_eq_true rfl), (Nat.le_of_ble_eq_true rfl)⟩ ⟨rfl, rfl⟩ ⟨hc, hs⟩ dL_law_1772 (fun r1 L1 f1 H locs hp hG => ?_)
  obtain ⟨rfl, s1, h1⟩ := hp
  have hX0_ := hX
  have hX := hX.S s1
  have hG := hG.swap
  refine lv_pop hx hb dL_law_1775 rfl ?_
  refine lv_aload_n hx hb dL_law_1776 rfl (lv_at hl 1 rfl) ?_
  refine lv_aload_n hx hb dL_law_1777 rfl (lv_at hl 3 rfl) ?_
  refine lv_iload_n hx hb dL_law_1778 rfl (lv_at hl 0 rfl) ?_
  refine lv_iconst (v := (1 : Int32)) hx hb dL_law_1779 (by decide) ?_
  refine lv_iadd hx hb dL_law_1780 ?_
  refine va_sld hx hb Z.2.2.1 Z.2.2.2 hbA hG.1.2.2 (lw_in h0 h6 hn (by decide)) dL_law_1781 ?_
  refine lv_aload_n hx hb dL_law_1782 rfl (lv_at hl 3 rfl) ?_
  refine lv_iload_n hx hb dL_law_1783 rfl (lv_at hl 0 rfl) ?_
  refine lv_iconst (v := (2 : Int32)) hx hb dL_law_1784 (by decide) ?_
  refine lv_iadd hx hb dL_law_1785 ?_
  refine va_sld hx hb Z.2.2.1 Z.2.2.2 hbA hG.1.2.2 (lw_in h0 h6 hn (by decide)) dL_law_1786 ?_
  obtain ⟨vl, vh, hl0, hh, hRR⟩ := id hY.2.2.2.2
  refine t_ViG C hO hl.1 (fun _ h => h) hG hY.1 (As := [.int (sc (i + (1 : Int32)).toNatClampNeg), .int (sc (i + (2 : Int32)).toNatClampNeg)]) (rest := []) (t_X10_drawn l E J σ K k hY.1 hY.2.1 hY.2.2.1 (sc (i + (1 : Int32)).toNatClampNeg) (sc (i + (2 : Int32)).toNatClampNeg) hl0 hh (hRR 0 (by decide))) my_X10_drawn wd1725 hY.2.1 hY.2.2.1 td_40 rfl rfl rfl (Nat.le_of_ble_eq_true rfl) ⟨(Nat.le_of_ble_eq_true rfl), (Nat.le_of_ble_eq_true rfl)⟩ ⟨rfl, rfl⟩ ⟨hc, hs⟩ dL_law_1787 (fun r2 K1 k1 H locs hp hG => ?_)
  obtain ⟨rfl, s2, h2⟩ := hp
  have hY := hY.S s2 rfl rfl
  have hG := hG.swap
  refine lv_pop hx hb dL_law_1790 rfl ?_
  refine lv_goto (tgt := 2118) hx hb dL_law_1791 (by decide) ?_
  exact kk _ _ _ _ _ hG hX hY (hD.S s1 s2 hX0_ rfl rfl rfl rfl) hl
set_option maxHeartbeats 4000000 in
set_option maxRecDepth 100000 in
theorem law_62 {p : Program} {l : Launch} {e : Env} {s : State} {m : MethodId} {below : List Frame} {meth : Method} {c : Code} {b n : Nat} {sc : Nat → Int32} {E : gE} {J : Nat → Nat} {L K : List Nat} {τ σ : Nat → Nat} {f k : gF} {x y : Nat} {H : Heap} {locs : List Loc} {cells slots : Nat} {ls : Array Slot} {i : Int32} (Z : gLw E p s m meth c b n sc) (hO : oW J (fun q : Nat => s.heap.size ≤ q) s s.heap) (hn : n ≤ 3072) (hc : cells ≤ 600000) (hs : slots ≤ 7302249) (h0 : 0 ≤ i.toInt) (h6 : i.toInt + 6 ≤ (n : Int)) (hG : gG E (fun q : Nat => s.heap.size ≤ q) L f K k s.heap H locs) (hX : iX E L τ f x) (hY : iY E K σ k y) (hD : rel E L τ f x K σ k) (hl : lv_has ls 4 [(3, .int i), (2, .ref y), (1, .ref x), (0, .ref b)]) (kk : lwK p l e s m below meth c b E L K τ σ x y cells slots i) : W p l e room_1 s m #[Value.ref b] below meth c H locs cells slots (lw_Z below #[Value.ref b] s) (F0 m 1794 ls []) := by
  have C := Z.1
  have hx := C.1
  have hb := C.2.1
  have hbA : ¬ (fun q : Nat => s.heap.size ≤ q) b := Nat.not_le.mpr Z.2.2.2
  obtain ⟨hJ, vw, vm, hw, hw0, hm0⟩ := id hD
  refine lv_aload_n hx hb dL_law_1794 rfl (lv_at hl 2 rfl) ?_
  refine lv_aload_n hx hb dL_law_1795 rfl (lv_at hl 3 rfl) ?_
  refine lv_iload_n hx hb dL_law_1796 rfl (lv_at hl 0 rfl) ?_
  refine lv_iconst (v := (1 : Int32)) hx hb dL_law_1797 (by decide) ?_
  refine lv_iadd hx hb dL_law_1798 ?_
  refine va_sld hx hb Z.2.2.1 Z.2.2.2 hbA hG.1.2.2 (lw_in h0 h6 hn (by decide)) dL_law_1799 ?_
  refine lv_aload_n hx hb dL_law_1800 rfl (lv_at hl 3 rfl) ?_
  refine lv_iload_n hx hb dL_law_1801 rfl (lv_at hl 0 rfl) ?_
  refine lv_iconst (v := (2 : Int32)) hx hb dL_law_1802 (by decide) ?_
  refine lv_iadd hx hb dL_law_1803 ?_
  refine va_sld hx hb Z.2.2.1 Z.2.2.2 hbA hG.1.2.2 (lw_in h0 h6 hn (by decide)) dL_law_1804 ?_
  refine lv_aload_n hx hb dL_law_1805 rfl (lv_at hl 3 rfl) ?_
  refine lv_iload_n hx hb dL_law_1806 rfl (lv_at hl 0 rfl) ?_
  refine lv_iconst (v := (3 : Int32)) hx hb dL_law_1807 (by decide) ?_
  refine lv_iadd hx hb dL_law_1808 ?_
  refine va_sld hx hb Z.2.2.1 Z.2.2.2 hbA hG.1.2.2 (lw_in h0 h6 hn (by decide)) dL_law_1809 ?_
  refine t_ViG C hO hl.1 (fun _ h => h) hG hX.1 (As := [.int (sc (i + (1 : Int32)).toNatClampNeg), .int (sc (i + (2 : Int32)).toNatClampNeg), .int (sc (i + (3 : Int32)).toNatClampNeg)]) (rest := []) (t_X9_luck l E J τ L f hX.1 hX.2.1 hX.2.2.1 (sc (i + (1 : Int32)).toNatClampNeg) (sc (i + (2 : Int32)).toNatClampNeg) (sc (i + (3 : Int32)).toNatClampNeg)) my_X9_luck wd1729 hX.2.1 hX.2.2.1 td_0 rfl rfl rfl (Nat.le_of_ble_eq_true rfl) ⟨(Nat.le_of_ble_eq_true rfl), (Nat.le_of_ble_eq_true rfl)⟩ ⟨rfl, rfl⟩ ⟨hc, hs⟩ dL_law_1810 (fun r1 L1 f1 H locs hp hG => ?_)
  obtain ⟨rfl, s1, h1⟩ := hp
  have hX0_ := hX
  have hX := hX.S s1
  have hG := hG.swap
  refine lv_pop hx hb dL_law_1813 rfl ?_
  refine lv_aload_n hx hb dL_law_1814 rfl (lv_at hl 1 rfl) ?_
  refine lv_aload_n hx hb dL_law_1815 rfl (lv_at hl 3 rfl) ?_
  refine lv_iload_n hx hb dL_law_1816 rfl (lv_at hl 0 rfl) ?_
  refine lv_iconst (v := (1 : Int32)) hx hb dL_law_1817 (by decide) ?_
  refine lv_iadd hx hb dL_law_1818 ?_
  refine va_sld hx hb Z.2.2.1 Z.2.2.2 hbA hG.1.2.2 (lw_in h0 h6 hn (by decide)) dL_law_1819 ?_
  refine lv_aload_n hx hb dL_law_1820 rfl (lv_at hl 3 rfl) ?_
  refine lv_iload_n hx hb dL_law_1821 rfl (lv_at hl 0 rfl) ?_
  refine lv_iconst (v := (2 : Int32)) hx hb dL_law_1822 (by decide) ?_
  refine lv_iadd hx hb dL_law_1823 ?_
  refine va_sld hx hb Z.2.2.1 Z.2.2.2 hbA hG.1.2.2 (lw_in h0 h6 hn (by decide)) dL_law_1824 ?_
  refine lv_aload_n hx hb dL_law_1825 rfl (lv_at hl 3 rfl) ?_
  refine lv_iload_n hx hb dL_law_1826 rfl (lv_at hl 0 rfl) ?_
  refine lv_iconst (v := (3 : Int32)) hx hb dL_law_1827 (by decide) ?_
  refine lv_iadd hx hb dL_law_1828 ?_
  refine va_sld hx hb Z.2.2.1 Z.2.2.2 hbA hG.1.2.2 (lw_in h0 h6 hn (by decide)) dL_law_1829 ?_
  obtain ⟨vl, vh, hl0, hh, hRR⟩ := id hY.2.2.2.2
  refine t_ViG C hO hl.1 (fun _ h => h) hG hY.1 (As := [.int (sc (i + (1 : Int32)).toNatClampNeg), .int (sc (i + (2 : Int32)).toNatClampNeg), .int (sc (i + (3 : Int32)).toNatClampNeg)]) (rest := []) (t_X10_luck l E J σ K k hY.1 hY.2.1 hY.2.2.1 (sc (i + (1 : Int32)).toNatClampNeg) (sc (i + (2 : Int32)).toNatClampNeg) (sc (i + (3 : Int32)).toNatClampNeg) hl0 hh (hRR 0 (by decide))) my_X10_luck wd1733 hY.2.1 hY.2.2.1 td_40 rfl rfl rfl (Nat.le_of_ble_eq_true rfl) ⟨(Nat.le_of_ble_eq_true rfl), (Nat.le_of_ble_eq_true rfl)⟩ ⟨rfl, rfl⟩ ⟨hc, hs⟩ dL_law_1830 (fun r2 K1 k1 H locs hp hG => ?_)
  obtain ⟨rfl, s2, h2⟩ := hp
  have hY := hY.S s2 rfl rfl
  have hG := hG.swap
  refine lv_pop hx hb dL_law_1833 rfl ?_
  refine lv_goto (tgt := 2118) hx hb dL_law_1834 (by decide) ?_
  exact kk _ _ _ _ _ hG hX hY (hD.S s1 s2 hX0_ rfl rfl rfl rfl) hl
set_option maxHeartbeats 4000000 in
set_option maxRecDepth 100000 in
theorem law_63 {p : Program} {l : Launch} {e : Env} {s : State} {m : MethodId} {below : List Frame} {meth : Method} {c : Code} {b n : Nat} {sc : Nat → Int32} {E : gE} {J : Nat → Nat} {L K : List Nat} {τ σ : Nat → Nat} {f k : gF} {x y : Nat} {H : Heap} {locs : List Loc} {cells slots : Nat} {ls : Array Slot} {i : Int32} (Z : gLw E p s m meth c b n sc) (hO : oW J (fun q : Nat => s.heap.size ≤ q) s s.heap) (hn : n ≤ 3072) (hc : cells ≤ 600000) (hs : slots ≤ 7302249) (h0 : 0 ≤ i.toInt) (h6 : i.toInt + 6 ≤ (n : Int)) (hG : gG E (fun q : Nat => s.heap.size ≤ q) L f K k s.heap H locs) (hX : iX E L τ f x) (hY : iY E K σ k y) (hD : rel E L τ f x K σ k) (hl : lv_has ls 4 [(3, .int i), (2, .ref y), (1, .ref x), (0, .ref b)]) (kk : lwK p l e s m below meth c b E L K τ σ x y cells slots i) : W p l e room_1 s m #[Value.ref b] below meth c H locs cells slots (lw_Z below #[Value.ref b] s) (F0 m 1837 ls []) := by
  have C := Z.1
  have hx := C.1
  have hb := C.2.1
  have hbA : ¬ (fun q : Nat => s.heap.size ≤ q) b := Nat.not_le.mpr Z.2.2.2
  obtain ⟨hJ, vw, vm, hw, hw0, hm0⟩ := id hD
  refine lv_aload_n hx hb dL_law_1837 rfl (lv_at hl 2 rfl) ?_
  refine lv_aload_n hx hb dL_law_1838 rfl (lv_at hl 3 rfl) ?_
  refine lv_iload_n hx hb dL_law_1839 rfl (lv_at hl 0 rfl) ?_
  refine lv_iconst (v := (1 : Int32)) hx hb dL_law_1840 (by decide) ?_
  refine lv_iadd hx hb dL_law_1841 ?_
  refine va_sld hx hb Z.2.2.1 Z.2.2.2 hbA hG.1.2.2 (lw_in h0 h6 hn (by decide)) dL_law_1842 ?_
  refine lv_aload_n hx hb dL_law_1843 rfl (lv_at hl 3 rfl) ?_
  refine lv_iload_n hx hb dL_law_1844 rfl (lv_at hl 0 rfl) ?_
  refine lv_iconst (v := (2 : Int32)) hx hb dL_law_1845 (by decide) ?_
  refine lv_iadd hx hb dL_law_1846 ?_
  refine va_sld hx hb Z.2.2.1 Z.2.2.2 hbA hG.1.2.2 (lw_in h0 h6 hn (by decide)) dL_law_1847 ?_
  refine t_ViG C hO hl.1 (fun _ h => h) hG hX.1 (As := [.int (sc (i + (1 : Int32)).toNatClampNeg), .int (sc (i + (2 : Int32)).toNatClampNeg)]) (rest := []) (t_X9_rate l E J τ L f hX.1 hX.2.1 hX.2.2.1 (sc (i + (1 : Int32)).toNatClampNeg) (sc (i + (2 : Int32)).toNatClampNeg)) my_X9_rate wd1737 hX.2.1 hX.2.2.1 td_0 rfl rfl rfl (Nat.le_of_ble_eq_true rfl) ⟨(Nat.le_of_ble_eq_true rfl), (Nat.le_of_ble_eq_true rfl)⟩ ⟨rfl, rfl⟩ ⟨hc, hs⟩ dL_law_1848 (fun r1 L1 f1 H locs hp hG => ?_)
  obtain ⟨rfl, s1, h1⟩ := hp
  have hX0_ := hX
  have hX := hX.S s1
  have hG := hG.swap
  refine lv_pop hx hb dL_law_1851 rfl ?_
  refine lv_aload_n hx hb dL_law_1852 rfl (lv_at hl 1 rfl) ?_
  refine lv_aload_n hx hb dL_law_1853 rfl (lv_at hl 3 rfl) ?_
  refine lv_iload_n hx hb dL_law_1854 rfl (lv_at hl 0 rfl) ?_
  refine lv_iconst (v := (1 : Int32)) hx hb dL_law_1855 (by decide) ?_
  refine lv_iadd hx hb dL_law_1856 ?_
  refine va_sld hx hb Z.2.2.1 Z.2.2.2 hbA hG.1.2.2 (lw_in h0 h6 hn (by decide)) dL_law_1857 ?_
  refine lv_aload_n hx hb dL_law_1858 rfl (lv_at hl 3 rfl) ?_
  refine lv_iload_n hx hb dL_law_1859 rfl (lv_at hl 0 rfl) ?_
  refine lv_iconst (v := (2 : Int32)) hx hb dL_law_1860 (by decide) ?_
  refine lv_iadd hx hb dL_law_1861 ?_
  refine va_sld hx hb Z.2.2.1 Z.2.2.2 hbA hG.1.2.2 (lw_in h0 h6 hn (by decide)) dL_law_1862 ?_
  obtain ⟨vl, vh, hl0, hh, hRR⟩ := id hY.2.2.2.2
  refine t_ViG C hO hl.1 (fun _ h => h) hG hY.1 (As := [.int (sc (i + (1 : Int32)).toNatClampNeg), .int (sc (i + (2 : Int32)).toNatClampNeg)]) (rest := []) (t_X10_rate l E J σ K k hY.1 hY.2.1 hY.2.2.1 (sc (i + (1 : Int32)).toNatClampNeg) (sc (i + (2 : Int32)).toNatClampNeg) hl0 hh (hY.uq 46) (hY.uq 47) hRR) my_X10_rate wd1741 hY.2.1 hY.2.2.1 td_40 rfl rfl rfl (Nat.le_of_ble_eq_true rfl) ⟨(Nat.le_of_ble_eq_true rfl), (Nat.le_of_ble_eq_true rfl)⟩ ⟨rfl, rfl⟩ ⟨hc, hs⟩ dL_law_1863 (fun r2 K1 k1 H locs hp hG => ?_)
  obtain ⟨rfl, s2, h2⟩ := hp
  have hY := hY.W s2 h2.2
  have hG := hG.swap
  refine lv_pop hx hb dL_law_1866 rfl ?_
  refine lv_goto (tgt := 2118) hx hb dL_law_1867 (by decide) ?_
  exact kk _ _ _ _ _ hG hX hY (hD.S s1 s2 hX0_ rfl rfl rfl rfl) hl
set_option maxHeartbeats 4000000 in
set_option maxRecDepth 100000 in
theorem law_64 {p : Program} {l : Launch} {e : Env} {s : State} {m : MethodId} {below : List Frame} {meth : Method} {c : Code} {b n : Nat} {sc : Nat → Int32} {E : gE} {J : Nat → Nat} {L K : List Nat} {τ σ : Nat → Nat} {f k : gF} {x y : Nat} {H : Heap} {locs : List Loc} {cells slots : Nat} {ls : Array Slot} {i : Int32} (Z : gLw E p s m meth c b n sc) (hO : oW J (fun q : Nat => s.heap.size ≤ q) s s.heap) (hn : n ≤ 3072) (hc : cells ≤ 600000) (hs : slots ≤ 7302249) (h0 : 0 ≤ i.toInt) (h6 : i.toInt + 6 ≤ (n : Int)) (hG : gG E (fun q : Nat => s.heap.size ≤ q) L f K k s.heap H locs) (hX : iX E L τ f x) (hY : iY E K σ k y) (hD : rel E L τ f x K σ k) (hl : lv_has ls 4 [(3, .int i), (2, .ref y), (1, .ref x), (0, .ref b)]) (kk : lwK p l e s m below meth c b E L K τ σ x y cells slots i) : W p l e room_1 s m #[Value.ref b] below meth c H locs cells slots (lw_Z below #[Value.ref b] s) (F0 m 1870 ls []) := by
  have C := Z.1
  have hx := C.1
  have hb := C.2.1
  have hbA : ¬ (fun q : Nat => s.heap.size ≤ q) b := Nat.not_le.mpr Z.2.2.2
  obtain ⟨hJ, vw, vm, hw, hw0, hm0⟩ := id hD
  refine lv_aload_n hx hb dL_law_1870 rfl (lv_at hl 2 rfl) ?_
  refine lv_aload_n hx hb dL_law_1871 rfl (lv_at hl 3 rfl) ?_
  refine lv_iload_n hx hb dL_law_1872 rfl (lv_at hl 0 rfl) ?_
  refine lv_iconst (v := (1 : Int32)) hx hb dL_law_1873 (by decide) ?_
  refine lv_iadd hx hb dL_law_1874 ?_
  refine va_sld hx hb Z.2.2.1 Z.2.2.2 hbA hG.1.2.2 (lw_in h0 h6 hn (by decide)) dL_law_1875 ?_
  refine t_ViG C hO hl.1 (fun _ h => h) hG hX.1 (As := [.int (sc (i + (1 : Int32)).toNatClampNeg)]) (rest := []) (t_X9_count l E J τ L f hX.1 hX.2.1 hX.2.2.1 (sc (i + (1 : Int32)).toNatClampNeg)) my_X9_count wd1745 hX.2.1 hX.2.2.1 td_0 rfl rfl rfl (Nat.le_of_ble_eq_true rfl) ⟨(Nat.le_of_ble_eq_true rfl), (Nat.le_of_ble_eq_true rfl)⟩ ⟨rfl, rfl⟩ ⟨hc, hs⟩ dL_law_1876 (fun r1 L1 f1 H locs hp hG => ?_)
  obtain ⟨rfl, s1, h1⟩ := hp
  have hX0_ := hX
  have hX := hX.S s1
  have hG := hG.swap
  refine lv_pop hx hb dL_law_1879 rfl ?_
  refine lv_aload_n hx hb dL_law_1880 rfl (lv_at hl 1 rfl) ?_
  refine lv_aload_n hx hb dL_law_1881 rfl (lv_at hl 3 rfl) ?_
  refine lv_iload_n hx hb dL_law_1882 rfl (lv_at hl 0 rfl) ?_
  refine lv_iconst (v := (1 : Int32)) hx hb dL_law_1883 (by decide) ?_
  refine lv_iadd hx hb dL_law_1884 ?_
  refine va_sld hx hb Z.2.2.1 Z.2.2.2 hbA hG.1.2.2 (lw_in h0 h6 hn (by decide)) dL_law_1885 ?_
  obtain ⟨vl, vh, hl0, hh, hRR⟩ := id hY.2.2.2.2
  refine t_ViG C hO hl.1 (fun _ h => h) hG hY.1 (As := [.int (sc (i + (1 : Int32)).toNatClampNeg)]) (rest := []) (t_X10_count l E J σ K k hY.1 hY.2.1 hY.2.2.1 (sc (i + (1 : Int32)).toNatClampNeg)) my_X10_count wd1749 hY.2.1 hY.2.2.1 td_40 rfl rfl rfl (Nat.le_of_ble_eq_true rfl) ⟨(Nat.le_of_ble_eq_true rfl), (Nat.le_of_ble_eq_true rfl)⟩ ⟨rfl, rfl⟩ ⟨hc, hs⟩ dL_law_1886 (fun r2 K1 k1 H locs hp hG => ?_)
  obtain ⟨rfl, s2, h2⟩ := hp
  have hY := hY.S s2 rfl rfl
  have hG := hG.swap
  refine lv_pop hx hb dL_law_1889 rfl ?_
  refine lv_goto (tgt := 2118) hx hb dL_law_1890 (by decide) ?_
  exact kk _ _ _ _ _ hG hX hY (hD.S s1 s2 hX0_ rfl rfl rfl rfl) hl
set_option maxHeartbeats 4000000 in
set_option maxRecDepth 100000 in
theorem law_65 {p : Program} {l : Launch} {e : Env} {s : State} {m : MethodId} {below : List Frame} {meth : Method} {c : Code} {b n : Nat} {sc : Nat → Int32} {E : gE} {J : Nat → Nat} {L K : List Nat} {τ σ : Nat → Nat} {f k : gF} {x y : Nat} {H : Heap} {locs : List Loc} {cells slots : Nat} {ls : Array Slot} {i : Int32} (Z : gLw E p s m meth c b n sc) (hO : oW J (fun q : Nat => s.heap.size ≤ q) s s.heap) (hn : n ≤ 3072) (hc : cells ≤ 600000) (hs : slots ≤ 7302249) (h0 : 0 ≤ i.toInt) (h6 : i.toInt + 6 ≤ (n : Int)) (hG : gG E (fun q : Nat => s.heap.size ≤ q) L f K k s.heap H locs) (hX : iX E L τ f x) (hY : iY E K σ k y) (hD : rel E L τ f x K σ k) (hl : lv_has ls 4 [(3, .int i), (2, .ref y), (1, .ref x), (0, .ref b)]) (kk : lwK p l e s m below meth c b E L K τ σ x y cells slots i) : W p l e room_1 s m #[Value.ref b] below meth c H locs cells slots (lw_Z below #[Value.ref b] s) (F0 m 1893 ls []) := by
  have C := Z.1
  have hx := C.1
  have hb := C.2.1
  have hbA : ¬ (fun q : Nat => s.heap.size ≤ q) b := Nat.not_le.mpr Z.2.2.2
  obtain ⟨hJ, vw, vm, hw, hw0, hm0⟩ := id hD
  refine lv_aload_n hx hb dL_law_1893 rfl (lv_at hl 2 rfl) ?_
  refine lv_aload_n hx hb dL_law_1894 rfl (lv_at hl 3 rfl) ?_
  refine lv_iload_n hx hb dL_law_1895 rfl (lv_at hl 0 rfl) ?_
  refine lv_iconst (v := (1 : Int32)) hx hb dL_law_1896 (by decide) ?_
  refine lv_iadd hx hb dL_law_1897 ?_
  refine va_sld hx hb Z.2.2.1 Z.2.2.2 hbA hG.1.2.2 (lw_in h0 h6 hn (by decide)) dL_law_1898 ?_
  refine t_ViG C hO hl.1 (fun _ h => h) hG hX.1 (As := [.int (sc (i + (1 : Int32)).toNatClampNeg)]) (rest := []) (t_X9_image l E J τ L f hX.1 hX.2.1 hX.2.2.1 (sc (i + (1 : Int32)).toNatClampNeg)) my_X9_image wd1753 hX.2.1 hX.2.2.1 td_0 rfl rfl rfl (Nat.le_of_ble_eq_true rfl) ⟨(Nat.le_of_ble_eq_true rfl), (Nat.le_of_ble_eq_true rfl)⟩ ⟨rfl, rfl⟩ ⟨hc, hs⟩ dL_law_1899 (fun r1 L1 f1 H locs hp hG => ?_)
  obtain ⟨rfl, s1, h1⟩ := hp
  have hX0_ := hX
  have hX := hX.S s1
  have hG := hG.swap
  refine lv_pop hx hb dL_law_1902 rfl ?_
  refine lv_aload_n hx hb dL_law_1903 rfl (lv_at hl 1 rfl) ?_
  refine lv_aload_n hx hb dL_law_1904 rfl (lv_at hl 3 rfl) ?_
  refine lv_iload_n hx hb dL_law_1905 rfl (lv_at hl 0 rfl) ?_
  refine lv_iconst (v := (1 : Int32)) hx hb dL_law_1906 (by decide) ?_
  refine lv_iadd hx hb dL_law_1907 ?_
  refine va_sld hx hb Z.2.2.1 Z.2.2.2 hbA hG.1.2.2 (lw_in h0 h6 hn (by decide)) dL_law_1908 ?_
  obtain ⟨vl, vh, hl0, hh, hRR⟩ := id hY.2.2.2.2
  refine t_ViG C hO hl.1 (fun _ h => h) hG hY.1 (As := [.int (sc (i + (1 : Int32)).toNatClampNeg)]) (rest := []) (t_X10_image l E J σ K k hY.1 hY.2.1 hY.2.2.1 (sc (i + (1 : Int32)).toNatClampNeg) hl0 hh (hY.uq 46) (hY.uq 47) hRR) my_X10_image wd1757 hY.2.1 hY.2.2.1 td_40 rfl rfl rfl (Nat.le_of_ble_eq_true rfl) ⟨(Nat.le_of_ble_eq_true rfl), (Nat.le_of_ble_eq_true rfl)⟩ ⟨rfl, rfl⟩ ⟨hc, hs⟩ dL_law_1909 (fun r2 K1 k1 H locs hp hG => ?_)
  obtain ⟨rfl, s2, h2⟩ := hp
  have hY := hY.W s2 h2.2.2
  have hG := hG.swap
  refine lv_pop hx hb dL_law_1912 rfl ?_
  refine lv_goto (tgt := 2118) hx hb dL_law_1913 (by decide) ?_
  exact kk _ _ _ _ _ hG hX hY (hD.S s1 s2 hX0_ rfl rfl rfl rfl) hl
set_option maxHeartbeats 4000000 in
set_option maxRecDepth 100000 in
theorem law_66 {p : Program} {l : Launch} {e : Env} {s : State} {m : MethodId} {below : List Frame} {meth : Method} {c : Code} {b n : Nat} {sc : Nat → Int32} {E : gE} {J : Nat → Nat} {L K : List Nat} {τ σ : Nat → Nat} {f k : gF} {x y : Nat} {H : Heap} {locs : List Loc} {cells slots : Nat} {ls : Array Slot} {i : Int32} (Z : gLw E p s m meth c b n sc) (hO : oW J (fun q : Nat => s.heap.size ≤ q) s s.heap) (hn : n ≤ 3072) (hc : cells ≤ 600000) (hs : slots ≤ 7302249) (h0 : 0 ≤ i.toInt) (h6 : i.toInt + 6 ≤ (n : Int)) (hG : gG E (fun q : Nat => s.heap.size ≤ q) L f K k s.heap H locs) (hX : iX E L τ f x) (hY : iY E K σ k y) (hD : rel E L τ f x K σ k) (hl : lv_has ls 4 [(3, .int i), (2, .ref y), (1, .ref x), (0, .ref b)]) (kk : lwK p l e s m below meth c b E L K τ σ x y cells slots i) : W p l e room_1 s m #[Value.ref b] below meth c H locs cells slots (lw_Z below #[Value.ref b] s) (F0 m 1916 ls []) := by
  have C := Z.1
  have hx := C.1
  have hb := C.2.1
  have hbA : ¬ (fun q : Nat => s.heap.size ≤ q) b := Nat.not_le.mpr Z.2.2.2
  obtain ⟨hJ, vw, vm, hw, hw0, hm0⟩ := id hD
  refine lv_aload_n hx hb dL_law_1916 rfl (lv_at hl 2 rfl) ?_
  refine lv_aload_n hx hb dL_law_1917 rfl (lv_at hl 3 rfl) ?_
  refine lv_iload_n hx hb dL_law_1918 rfl (lv_at hl 0 rfl) ?_
  refine lv_iconst (v := (1 : Int32)) hx hb dL_law_1919 (by decide) ?_
  refine lv_iadd hx hb dL_law_1920 ?_
  refine va_sld hx hb Z.2.2.1 Z.2.2.2 hbA hG.1.2.2 (lw_in h0 h6 hn (by decide)) dL_law_1921 ?_
  refine t_ViG C hO hl.1 (fun _ h => h) hG hX.1 (As := [.int (sc (i + (1 : Int32)).toNatClampNeg)]) (rest := []) (t_X9_back l E J τ L f hX.1 hX.2.1 hX.2.2.1 (sc (i + (1 : Int32)).toNatClampNeg)) my_X9_back wd1761 hX.2.1 hX.2.2.1 td_0 rfl rfl rfl (Nat.le_of_ble_eq_true rfl) ⟨(Nat.le_of_ble_eq_true rfl), (Nat.le_of_ble_eq_true rfl)⟩ ⟨rfl, rfl⟩ ⟨hc, hs⟩ dL_law_1922 (fun r1 L1 f1 H locs hp hG => ?_)
  obtain ⟨rfl, s1, h1⟩ := hp
  have hX0_ := hX
  have hX := hX.S s1
  have hG := hG.swap
  refine lv_pop hx hb dL_law_1925 rfl ?_
  refine lv_aload_n hx hb dL_law_1926 rfl (lv_at hl 1 rfl) ?_
  refine lv_aload_n hx hb dL_law_1927 rfl (lv_at hl 3 rfl) ?_
  refine lv_iload_n hx hb dL_law_1928 rfl (lv_at hl 0 rfl) ?_
  refine lv_iconst (v := (1 : Int32)) hx hb dL_law_1929 (by decide) ?_
  refine lv_iadd hx hb dL_law_1930 ?_
  refine va_sld hx hb Z.2.2.1 Z.2.2.2 hbA hG.1.2.2 (lw_in h0 h6 hn (by decide)) dL_law_1931 ?_
  obtain ⟨vl, vh, hl0, hh, hRR⟩ := id hY.2.2.2.2
  refine t_ViG C hO hl.1 (fun _ h => h) hG hY.1 (As := [.int (sc (i + (1 : Int32)).toNatClampNeg)]) (rest := []) (t_X10_back l E J σ K k hY.1 hY.2.1 hY.2.2.1 (sc (i + (1 : Int32)).toNatClampNeg) hl0 hh (hY.uq 46) (hY.uq 47) hRR) my_X10_back wd1765 hY.2.1 hY.2.2.1 td_40 rfl rfl rfl (Nat.le_of_ble_eq_true rfl) ⟨(Nat.le_of_ble_eq_true rfl), (Nat.le_of_ble_eq_true rfl)⟩ ⟨rfl, rfl⟩ ⟨hc, hs⟩ dL_law_1932 (fun r2 K1 k1 H locs hp hG => ?_)
  obtain ⟨rfl, s2, h2⟩ := hp
  have hY := hY.W s2 h2.2
  have hG := hG.swap
  refine lv_pop hx hb dL_law_1935 rfl ?_
  refine lv_goto (tgt := 2118) hx hb dL_law_1936 (by decide) ?_
  exact kk _ _ _ _ _ hG hX hY (hD.S s1 s2 hX0_ rfl rfl rfl rfl) hl
set_option maxHeartbeats 4000000 in
set_option maxRecDepth 100000 in
theorem law_67 {p : Program} {l : Launch} {e : Env} {s : State} {m : MethodId} {below : List Frame} {meth : Method} {c : Code} {b n : Nat} {sc : Nat → Int32} {E : gE} {J : Nat → Nat} {L K : List Nat} {τ σ : Nat → Nat} {f k : gF} {x y : Nat} {H : Heap} {locs : List Loc} {cells slots : Nat} {ls : Array Slot} {i : Int32} (Z : gLw E p s m meth c b n sc) (hO : oW J (fun q : Nat => s.heap.size ≤ q) s s.heap) (hn : n ≤ 3072) (hc : cells ≤ 600000) (hs : slots ≤ 7302249) (h0 : 0 ≤ i.toInt) (h6 : i.toInt + 6 ≤ (n : Int)) (hG : gG E (fun q : Nat => s.heap.size ≤ q) L f K k s.heap H locs) (hX : iX E L τ f x) (hY : iY E K σ k y) (hD : rel E L τ f x K σ k) (hl : lv_has ls 4 [(3, .int i), (2, .ref y), (1, .ref x), (0, .ref b)]) (kk : lwK p l e s m below meth c b E L K τ σ x y cells slots i) : W p l e room_1 s m #[Value.ref b] below meth c H locs cells slots (lw_Z below #[Value.ref b] s) (F0 m 1939 ls []) := by
  have C := Z.1
  have hx := C.1
  have hb := C.2.1
  have hbA : ¬ (fun q : Nat => s.heap.size ≤ q) b := Nat.not_le.mpr Z.2.2.2
  obtain ⟨hJ, vw, vm, hw, hw0, hm0⟩ := id hD
  refine lv_aload_n hx hb dL_law_1939 rfl (lv_at hl 2 rfl) ?_
  refine lv_aload_n hx hb dL_law_1940 rfl (lv_at hl 3 rfl) ?_
  refine lv_iload_n hx hb dL_law_1941 rfl (lv_at hl 0 rfl) ?_
  refine lv_iconst (v := (1 : Int32)) hx hb dL_law_1942 (by decide) ?_
  refine lv_iadd hx hb dL_law_1943 ?_
  refine va_sld hx hb Z.2.2.1 Z.2.2.2 hbA hG.1.2.2 (lw_in h0 h6 hn (by decide)) dL_law_1944 ?_
  refine lv_aload_n hx hb dL_law_1945 rfl (lv_at hl 3 rfl) ?_
  refine lv_iload_n hx hb dL_law_1946 rfl (lv_at hl 0 rfl) ?_
  refine lv_iconst (v := (2 : Int32)) hx hb dL_law_1947 (by decide) ?_
  refine lv_iadd hx hb dL_law_1948 ?_
  refine va_sld hx hb Z.2.2.1 Z.2.2.2 hbA hG.1.2.2 (lw_in h0 h6 hn (by decide)) dL_law_1949 ?_
  refine lv_aload_n hx hb dL_law_1950 rfl (lv_at hl 3 rfl) ?_
  refine lv_iload_n hx hb dL_law_1951 rfl (lv_at hl 0 rfl) ?_
  refine lv_iconst (v := (3 : Int32)) hx hb dL_law_1952 (by decide) ?_
  refine lv_iadd hx hb dL_law_1953 ?_
  refine va_sld hx hb Z.2.2.1 Z.2.2.2 hbA hG.1.2.2 (lw_in h0 h6 hn (by decide)) dL_law_1954 ?_
  refine t_ViG C hO hl.1 (fun _ h => h) hG hX.1 (As := [.int (sc (i + (1 : Int32)).toNatClampNeg), .int (sc (i + (2 : Int32)).toNatClampNeg), .int (sc (i + (3 : Int32)).toNatClampNeg)]) (rest := []) (t_rowXR l E J τ L f hX.1 hX.2.1 hX.2.2.1 (sc (i + (1 : Int32)).toNatClampNeg) (sc (i + (2 : Int32)).toNatClampNeg) (sc (i + (3 : Int32)).toNatClampNeg)) my_X9_row wd1769 hX.2.1 hX.2.2.1 td_0 rfl rfl rfl (Nat.le_of_ble_eq_true rfl) ⟨(Nat.le_of_ble_eq_true rfl), (Nat.le_of_ble_eq_true rfl)⟩ ⟨rfl, rfl⟩ ⟨hc, hs⟩ dL_law_1955 (fun r1 L1 f1 H locs hp hG => ?_)
  obtain ⟨rfl, s1, h1⟩ := hp
  have hX0_ := hX
  have hX := hX.S s1
  have hG := hG.swap
  refine lv_pop hx hb dL_law_1958 rfl ?_
  refine lv_aload_n hx hb dL_law_1959 rfl (lv_at hl 1 rfl) ?_
  refine lv_aload_n hx hb dL_law_1960 rfl (lv_at hl 3 rfl) ?_
  refine lv_iload_n hx hb dL_law_1961 rfl (lv_at hl 0 rfl) ?_
  refine lv_iconst (v := (1 : Int32)) hx hb dL_law_1962 (by decide) ?_
  refine lv_iadd hx hb dL_law_1963 ?_
  refine va_sld hx hb Z.2.2.1 Z.2.2.2 hbA hG.1.2.2 (lw_in h0 h6 hn (by decide)) dL_law_1964 ?_
  refine lv_aload_n hx hb dL_law_1965 rfl (lv_at hl 3 rfl) ?_
  refine lv_iload_n hx hb dL_law_1966 rfl (lv_at hl 0 rfl) ?_
  refine lv_iconst (v := (2 : Int32)) hx hb dL_law_1967 (by decide) ?_
  refine lv_iadd hx hb dL_law_1968 ?_
  refine va_sld hx hb Z.2.2.1 Z.2.2.2 hbA hG.1.2.2 (lw_in h0 h6 hn (by decide)) dL_law_1969 ?_
  refine lv_aload_n hx hb dL_law_1970 rfl (lv_at hl 3 rfl) ?_
  refine lv_iload_n hx hb dL_law_1971 rfl (lv_at hl 0 rfl) ?_
  refine lv_iconst (v := (3 : Int32)) hx hb dL_law_1972 (by decide) ?_
  refine lv_iadd hx hb dL_law_1973 ?_
  refine va_sld hx hb Z.2.2.1 Z.2.2.2 hbA hG.1.2.2 (lw_in h0 h6 hn (by decide)) dL_law_1974 ?_
  obtain ⟨vl, vh, hl0, hh, hRR⟩ := id hY.2.2.2.2
  refine t_ViG C hO hl.1 (fun _ h => h) hG hY.1 (As := [.int (sc (i + (1 : Int32)).toNatClampNeg), .int (sc (i + (2 : Int32)).toNatClampNeg), .int (sc (i + (3 : Int32)).toNatClampNeg)]) (rest := []) (t_rowYR l E J σ K k hY.1 hY.2.1 hY.2.2.1 (sc (i + (1 : Int32)).toNatClampNeg) (sc (i + (2 : Int32)).toNatClampNeg) (sc (i + (3 : Int32)).toNatClampNeg) hw0 hm0 (hY.uq 41) (hY.uq 42)) my_X10_row wd1773 hY.2.1 hY.2.2.1 td_40 rfl rfl rfl (Nat.le_of_ble_eq_true rfl) ⟨(Nat.le_of_ble_eq_true rfl), (Nat.le_of_ble_eq_true rfl)⟩ ⟨rfl, rfl⟩ ⟨hc, hs⟩ dL_law_1975 (fun r2 K1 k1 H locs hp hG => ?_)
  obtain ⟨rfl, s2, h2⟩ := hp
  have hY := hY.S s2 rfl rfl
  have hG := hG.swap
  refine lv_pop hx hb dL_law_1978 rfl ?_
  refine lv_goto (tgt := 2118) hx hb dL_law_1979 (by decide) ?_
  exact kk _ _ _ _ _ hG hX hY ⟨hJ.S hX0_.1 s1 hX0_.2.1 hX0_.2.2.1 rfl, _, _, hw.row hJ hX0_.1 s1 hX0_.2.1 hX0_.2.2.1 rfl h1.2.2.1 h1.2.2.2, h2.2.2.1, h2.2.2.2⟩ hl
set_option maxHeartbeats 4000000 in
set_option maxRecDepth 100000 in
theorem law_68 {p : Program} {l : Launch} {e : Env} {s : State} {m : MethodId} {below : List Frame} {meth : Method} {c : Code} {b n : Nat} {sc : Nat → Int32} {E : gE} {J : Nat → Nat} {L K : List Nat} {τ σ : Nat → Nat} {f k : gF} {x y : Nat} {H : Heap} {locs : List Loc} {cells slots : Nat} {ls : Array Slot} {i : Int32} (Z : gLw E p s m meth c b n sc) (hO : oW J (fun q : Nat => s.heap.size ≤ q) s s.heap) (hn : n ≤ 3072) (hc : cells ≤ 600000) (hs : slots ≤ 7302249) (h0 : 0 ≤ i.toInt) (h6 : i.toInt + 6 ≤ (n : Int)) (hG : gG E (fun q : Nat => s.heap.size ≤ q) L f K k s.heap H locs) (hX : iX E L τ f x) (hY : iY E K σ k y) (hD : rel E L τ f x K σ k) (hl : lv_has ls 4 [(3, .int i), (2, .ref y), (1, .ref x), (0, .ref b)]) (kk : lwK p l e s m below meth c b E L K τ σ x y cells slots i) : W p l e room_1 s m #[Value.ref b] below meth c H locs cells slots (lw_Z below #[Value.ref b] s) (F0 m 1982 ls []) := by
  have C := Z.1
  have hx := C.1
  have hb := C.2.1
  have hbA : ¬ (fun q : Nat => s.heap.size ≤ q) b := Nat.not_le.mpr Z.2.2.2
  obtain ⟨hJ, vw, vm, hw, hw0, hm0⟩ := id hD
  refine lv_aload_n hx hb dL_law_1982 rfl (lv_at hl 2 rfl) ?_
  refine lv_aload_n hx hb dL_law_1983 rfl (lv_at hl 3 rfl) ?_
  refine lv_iload_n hx hb dL_law_1984 rfl (lv_at hl 0 rfl) ?_
  refine lv_iconst (v := (1 : Int32)) hx hb dL_law_1985 (by decide) ?_
  refine lv_iadd hx hb dL_law_1986 ?_
  refine va_sld hx hb Z.2.2.1 Z.2.2.2 hbA hG.1.2.2 (lw_in h0 h6 hn (by decide)) dL_law_1987 ?_
  refine lv_aload_n hx hb dL_law_1988 rfl (lv_at hl 3 rfl) ?_
  refine lv_iload_n hx hb dL_law_1989 rfl (lv_at hl 0 rfl) ?_
  refine lv_iconst (v := (2 : Int32)) hx hb dL_law_1990 (by decide) ?_
  refine lv_iadd hx hb dL_law_1991 ?_
  refine va_sld hx hb Z.2.2.1 Z.2.2.2 hbA hG.1.2.2 (lw_in h0 h6 hn (by decide)) dL_law_1992 ?_
  refine lv_aload_n hx hb dL_law_1993 rfl (lv_at hl 3 rfl) ?_
  refine lv_iload_n hx hb dL_law_1994 rfl (lv_at hl 0 rfl) ?_
  refine lv_iconst (v := (3 : Int32)) hx hb dL_law_1995 (by decide) ?_
  refine lv_iadd hx hb dL_law_1996 ?_
  refine va_sld hx hb Z.2.2.1 Z.2.2.2 hbA hG.1.2.2 (lw_in h0 h6 hn (by decide)) dL_law_1997 ?_
  refine lv_i2l (v := ((sc (i + (3 : Int32)).toNatClampNeg)).toInt64) hx hb dL_law_1998 rfl ?_
  refine lv_bipush (v := (32 : Int32)) hx hb dL_law_1999 (by decide) ?_
  refine lv_lshl (v := _) hx hb dL_law_2001 rfl ?_
  refine lv_topl (fun z1 ez1 => ?_)
  refine lv_aload_n hx hb dL_law_2002 rfl (lv_at hl 3 rfl) ?_
  refine lv_iload_n hx hb dL_law_2003 rfl (lv_at hl 0 rfl) ?_
  refine lv_iconst (v := (4 : Int32)) hx hb dL_law_2004 (by decide) ?_
  refine lv_iadd hx hb dL_law_2005 ?_
  refine va_sld hx hb Z.2.2.1 Z.2.2.2 hbA hG.1.2.2 (lw_in h0 h6 hn (by decide)) dL_law_2006 ?_
  refine lv_i2l (v := ((sc (i + (4 : Int32)).toNatClampNeg)).toInt64) hx hb dL_law_2007 rfl ?_
  refine lv_ldc2 hx hb C.2.2.2.1 (C.2.2.2.2.1 _ wd1774) dL_law_2008 ?_
  refine lv_land hx hb dL_law_2011 ?_
  refine lv_topl (fun z2 ez2 => ?_)
  refine lv_lor hx hb dL_law_2012 ?_
  refine lv_topl (fun z3 ez3 => ?_)
  refine t_ViG C hO hl.1 (fun _ h => h) hG hX.1 (As := [.int (sc (i + (1 : Int32)).toNatClampNeg), .int (sc (i + (2 : Int32)).toNatClampNeg), .long z3]) (rest := []) (t_writeX l E J τ L f hX.1 hX.2.1 hX.2.2.1 (sc (i + (1 : Int32)).toNatClampNeg) (sc (i + (2 : Int32)).toNatClampNeg) z3 hw) my_X9_write wd1778 hX.2.1 hX.2.2.1 td_0 rfl rfl rfl (Nat.le_of_ble_eq_true rfl) ⟨(Nat.le_of_ble_eq_true rfl), (Nat.le_of_ble_eq_true rfl)⟩ ⟨rfl, rfl⟩ ⟨hc, hs⟩ dL_law_2013 (fun r1 L1 f1 H locs hp hG => ?_)
  obtain ⟨rfl, s1, h1⟩ := hp
  have hX0_ := hX
  have hX := hX.S s1
  have hG := hG.swap
  refine lv_pop hx hb dL_law_2016 rfl ?_
  refine lv_aload_n hx hb dL_law_2017 rfl (lv_at hl 1 rfl) ?_
  refine lv_aload_n hx hb dL_law_2018 rfl (lv_at hl 3 rfl) ?_
  refine lv_iload_n hx hb dL_law_2019 rfl (lv_at hl 0 rfl) ?_
  refine lv_iconst (v := (1 : Int32)) hx hb dL_law_2020 (by decide) ?_
  refine lv_iadd hx hb dL_law_2021 ?_
  refine va_sld hx hb Z.2.2.1 Z.2.2.2 hbA hG.1.2.2 (lw_in h0 h6 hn (by decide)) dL_law_2022 ?_
  refine lv_aload_n hx hb dL_law_2023 rfl (lv_at hl 3 rfl) ?_
  refine lv_iload_n hx hb dL_law_2024 rfl (lv_at hl 0 rfl) ?_
  refine lv_iconst (v := (2 : Int32)) hx hb dL_law_2025 (by decide) ?_
  refine lv_iadd hx hb dL_law_2026 ?_
  refine va_sld hx hb Z.2.2.1 Z.2.2.2 hbA hG.1.2.2 (lw_in h0 h6 hn (by decide)) dL_law_2027 ?_
  refine lv_aload_n hx hb dL_law_2028 rfl (lv_at hl 3 rfl) ?_
  refine lv_iload_n hx hb dL_law_2029 rfl (lv_at hl 0 rfl) ?_
  refine lv_iconst (v := (3 : Int32)) hx hb dL_law_2030 (by decide) ?_
  refine lv_iadd hx hb dL_law_2031 ?_
  refine va_sld hx hb Z.2.2.1 Z.2.2.2 hbA hG.1.2.2 (lw_in h0 h6 hn (by decide)) dL_law_2032 ?_
  refine lv_i2l (v := ((sc (i + (3 : Int32)).toNatClampNeg)).toInt64) hx hb dL_law_2033 rfl ?_
  refine lv_bipush (v := (32 : Int32)) hx hb dL_law_2034 (by decide) ?_
  refine lv_lshl (v := _) hx hb dL_law_2036 rfl ?_
  refine lv_topl (fun z4 ez4 => ?_)
  refine lv_aload_n hx hb dL_law_2037 rfl (lv_at hl 3 rfl) ?_
  refine lv_iload_n hx hb dL_law_2038 rfl (lv_at hl 0 rfl) ?_
  refine lv_iconst (v := (4 : Int32)) hx hb dL_law_2039 (by decide) ?_
  refine lv_iadd hx hb dL_law_2040 ?_
  refine va_sld hx hb Z.2.2.1 Z.2.2.2 hbA hG.1.2.2 (lw_in h0 h6 hn (by decide)) dL_law_2041 ?_
  refine lv_i2l (v := ((sc (i + (4 : Int32)).toNatClampNeg)).toInt64) hx hb dL_law_2042 rfl ?_
  refine lv_ldc2 hx hb C.2.2.2.1 (C.2.2.2.2.1 _ wd1774) dL_law_2043 ?_
  refine lv_land hx hb dL_law_2046 ?_
  refine lv_topl (fun z5 ez5 => ?_)
  refine lv_lor hx hb dL_law_2047 ?_
  refine lv_topl (fun z6 ez6 => ?_)
  obtain ⟨vl, vh, hl0, hh, hRR⟩ := id hY.2.2.2.2
  refine t_ViG C hO hl.1 (fun _ h => h) hG hY.1 (As := [.int (sc (i + (1 : Int32)).toNatClampNeg), .int (sc (i + (2 : Int32)).toNatClampNeg), .long z6]) (rest := []) (t_writeY l E J σ K k hY.1 hY.2.1 hY.2.2.1 (sc (i + (1 : Int32)).toNatClampNeg) (sc (i + (2 : Int32)).toNatClampNeg) z6 hw0 hm0) my_X10_write wd1782 hY.2.1 hY.2.2.1 td_40 rfl rfl rfl (Nat.le_of_ble_eq_true rfl) ⟨(Nat.le_of_ble_eq_true rfl), (Nat.le_of_ble_eq_true rfl)⟩ ⟨rfl, rfl⟩ ⟨hc, hs⟩ dL_law_2048 (fun r2 K1 k1 H locs hp hG => ?_)
  obtain ⟨rfl, s2, h2⟩ := hp
  have hY := hY.S s2 rfl rfl
  have hG := hG.swap
  refine lv_pop hx hb dL_law_2051 rfl ?_
  refine lv_goto (tgt := 2118) hx hb dL_law_2052 (by decide) ?_
  exact kk _ _ _ _ _ hG hX hY (hD.S s1 s2 hX0_ rfl rfl rfl rfl) hl
set_option maxHeartbeats 4000000 in
set_option maxRecDepth 100000 in
theorem law_69 {p : Program} {l : Launch} {e : Env} {s : State} {m : MethodId} {below : List Frame} {meth : Method} {c : Code} {b n : Nat} {sc : Nat → Int32} {E : gE} {J : Nat → Nat} {L K : List Nat} {τ σ : Nat → Nat} {f k : gF} {x y : Nat} {H : Heap} {locs : List Loc} {cells slots : Nat} {ls : Array Slot} {i : Int32} (Z : gLw E p s m meth c b n sc) (hO : oW J (fun q : Nat => s.heap.size ≤ q) s s.heap) (hn : n ≤ 3072) (hc : cells ≤ 600000) (hs : slots ≤ 7302249) (h0 : 0 ≤ i.toInt) (h6 : i.toInt + 6 ≤ (n : Int)) (hG : gG E (fun q : Nat => s.heap.size ≤ q) L f K k s.heap H locs) (hX : iX E L τ f x) (hY : iY E K σ k y) (hD : rel E L τ f x K σ k) (hl : lv_has ls 4 [(3, .int i), (2, .ref y), (1, .ref x), (0, .ref b)]) (kk : lwK p l e s m below meth c b E L K τ σ x y cells slots i) : W p l e room_1 s m #[Value.ref b] below meth c H locs cells slots (lw_Z below #[Value.ref b] s) (F0 m 2055 ls []) := by
  have C := Z.1
  have hx := C.1
  have hb := C.2.1
  have hbA : ¬ (fun q : Nat => s.heap.size ≤ q) b := Nat.not_le.mpr Z.2.2.2
  obtain ⟨hJ, vw, vm, hw, hw0, hm0⟩ := id hD
  refine lv_aload_n hx hb dL_law_2055 rfl (lv_at hl 2 rfl) ?_
  refine lv_aload_n hx hb dL_law_2056 rfl (lv_at hl 3 rfl) ?_
  refine lv_iload_n hx hb dL_law_2057 rfl (lv_at hl 0 rfl) ?_
  refine lv_iconst (v := (1 : Int32)) hx hb dL_law_2058 (by decide) ?_
  refine lv_iadd hx hb dL_law_2059 ?_
  refine va_sld hx hb Z.2.2.1 Z.2.2.2 hbA hG.1.2.2 (lw_in h0 h6 hn (by decide)) dL_law_2060 ?_
  refine lv_aload_n hx hb dL_law_2061 rfl (lv_at hl 3 rfl) ?_
  refine lv_iload_n hx hb dL_law_2062 rfl (lv_at hl 0 rfl) ?_
  refine lv_iconst (v := (2 : Int32)) hx hb dL_law_2063 (by decide) ?_
  refine lv_iadd hx hb dL_law_2064 ?_
  refine va_sld hx hb Z.2.2.1 Z.2.2.2 hbA hG.1.2.2 (lw_in h0 h6 hn (by decide)) dL_law_2065 ?_
  refine lv_aload_n hx hb dL_law_2066 rfl (lv_at hl 3 rfl) ?_
  refine lv_iload_n hx hb dL_law_2067 rfl (lv_at hl 0 rfl) ?_
  refine lv_iconst (v := (3 : Int32)) hx hb dL_law_2068 (by decide) ?_
  refine lv_iadd hx hb dL_law_2069 ?_
  refine va_sld hx hb Z.2.2.1 Z.2.2.2 hbA hG.1.2.2 (lw_in h0 h6 hn (by decide)) dL_law_2070 ?_
  refine lv_aload_n hx hb dL_law_2071 rfl (lv_at hl 3 rfl) ?_
  refine lv_iload_n hx hb dL_law_2072 rfl (lv_at hl 0 rfl) ?_
  refine lv_iconst (v := (4 : Int32)) hx hb dL_law_2073 (by decide) ?_
  refine lv_iadd hx hb dL_law_2074 ?_
  refine va_sld hx hb Z.2.2.1 Z.2.2.2 hbA hG.1.2.2 (lw_in h0 h6 hn (by decide)) dL_law_2075 ?_
  refine lv_aload_n hx hb dL_law_2076 rfl (lv_at hl 3 rfl) ?_
  refine lv_iload_n hx hb dL_law_2077 rfl (lv_at hl 0 rfl) ?_
  refine lv_iconst (v := (5 : Int32)) hx hb dL_law_2078 (by decide) ?_
  refine lv_iadd hx hb dL_law_2079 ?_
  refine va_sld hx hb Z.2.2.1 Z.2.2.2 hbA hG.1.2.2 (lw_in h0 h6 hn (by decide)) dL_law_2080 ?_
  refine t_ViG C hO hl.1 (fun _ h => h) hG hX.1 (As := [.int (sc (i + (1 : Int32)).toNatClampNeg), .int (sc (i + (2 : Int32)).toNatClampNeg), .int (sc (i + (3 : Int32)).toNatClampNeg), .int (sc (i + (4 : Int32)).toNatClampNeg), .int (sc (i + (5 : Int32)).toNatClampNeg)]) (rest := []) (t_pasteX l E J τ L f hX.1 hX.2.1 hX.2.2.1 (sc (i + (1 : Int32)).toNatClampNeg) (sc (i + (2 : Int32)).toNatClampNeg) (sc (i + (3 : Int32)).toNatClampNeg) (sc (i + (4 : Int32)).toNatClampNeg) (sc (i + (5 : Int32)).toNatClampNeg) hw) my_X9_paste wd1786 hX.2.1 hX.2.2.1 td_0 rfl rfl rfl (Nat.le_of_ble_eq_true rfl) ⟨(Nat.le_of_ble_eq_true rfl), (Nat.le_of_ble_eq_true rfl)⟩ ⟨rfl, rfl⟩ ⟨hc, hs⟩ dL_law_2081 (fun r1 L1 f1 H locs hp hG => ?_)
  obtain ⟨rfl, s1, h1⟩ := hp
  have hX0_ := hX
  have hX := hX.S s1
  have hG := hG.swap
  refine lv_aload_n hx hb dL_law_2084 rfl (lv_at hl 1 rfl) ?_
  refine lv_aload_n hx hb dL_law_2085 rfl (lv_at hl 3 rfl) ?_
  refine lv_iload_n hx hb dL_law_2086 rfl (lv_at hl 0 rfl) ?_
  refine lv_iconst (v := (1 : Int32)) hx hb dL_law_2087 (by decide) ?_
  refine lv_iadd hx hb dL_law_2088 ?_
  refine va_sld hx hb Z.2.2.1 Z.2.2.2 hbA hG.1.2.2 (lw_in h0 h6 hn (by decide)) dL_law_2089 ?_
  refine lv_aload_n hx hb dL_law_2090 rfl (lv_at hl 3 rfl) ?_
  refine lv_iload_n hx hb dL_law_2091 rfl (lv_at hl 0 rfl) ?_
  refine lv_iconst (v := (2 : Int32)) hx hb dL_law_2092 (by decide) ?_
  refine lv_iadd hx hb dL_law_2093 ?_
  refine va_sld hx hb Z.2.2.1 Z.2.2.2 hbA hG.1.2.2 (lw_in h0 h6 hn (by decide)) dL_law_2094 ?_
  refine lv_aload_n hx hb dL_law_2095 rfl (lv_at hl 3 rfl) ?_
  refine lv_iload_n hx hb dL_law_2096 rfl (lv_at hl 0 rfl) ?_
  refine lv_iconst (v := (3 : Int32)) hx hb dL_law_2097 (by decide) ?_
  refine lv_iadd hx hb dL_law_2098 ?_
  refine va_sld hx hb Z.2.2.1 Z.2.2.2 hbA hG.1.2.2 (lw_in h0 h6 hn (by decide)) dL_law_2099 ?_
  refine lv_aload_n hx hb dL_law_2100 rfl (lv_at hl 3 rfl) ?_
  refine lv_iload_n hx hb dL_law_2101 rfl (lv_at hl 0 rfl) ?_
  refine lv_iconst (v := (4 : Int32)) hx hb dL_law_2102 (by decide) ?_
  refine lv_iadd hx hb dL_law_2103 ?_
  refine va_sld hx hb Z.2.2.1 Z.2.2.2 hbA hG.1.2.2 (lw_in h0 h6 hn (by decide)) dL_law_2104 ?_
  refine lv_aload_n hx hb dL_law_2105 rfl (lv_at hl 3 rfl) ?_
  refine lv_iload_n hx hb dL_law_2106 rfl (lv_at hl 0 rfl) ?_
  refine lv_iconst (v := (5 : Int32)) hx hb dL_law_2107 (by decide) ?_
  refine lv_iadd hx hb dL_law_2108 ?_
  refine va_sld hx hb Z.2.2.1 Z.2.2.2 hbA hG.1.2.2 (lw_in h0 h6 hn (by decide)) dL_law_2109 ?_
  obtain ⟨vl, vh, hl0, hh, hRR⟩ := id hY.2.2.2.2
  refine t_ViG C hO hl.1 (fun _ h => h) hG hY.1 (As := [.int (sc (i + (1 : Int32)).toNatClampNeg), .int (sc (i + (2 : Int32)).toNatClampNeg), .int (sc (i + (3 : Int32)).toNatClampNeg), .int (sc (i + (4 : Int32)).toNatClampNeg), .int (sc (i + (5 : Int32)).toNatClampNeg)]) (rest := [.int r1]) (t_pasteY l E J σ K k hY.1 hY.2.1 hY.2.2.1 (sc (i + (1 : Int32)).toNatClampNeg) (sc (i + (2 : Int32)).toNatClampNeg) (sc (i + (3 : Int32)).toNatClampNeg) (sc (i + (4 : Int32)).toNatClampNeg) (sc (i + (5 : Int32)).toNatClampNeg) hw0 hm0) my_X10_paste wd1790 hY.2.1 hY.2.2.1 td_40 rfl rfl rfl (Nat.le_of_ble_eq_true rfl) ⟨(Nat.le_of_ble_eq_true rfl), (Nat.le_of_ble_eq_true rfl)⟩ ⟨rfl, rfl⟩ ⟨hc, hs⟩ dL_law_2110 (fun r2 K1 k1 H locs hp hG => ?_)
  obtain ⟨rfl, s2, h2⟩ := hp
  have hY := hY.S s2 rfl rfl
  have hG := hG.swap
  refine lv_icmp_eq (tgt := 2118) hx hb dL_law_2113 (by decide) (fun _ => ?_) (fun h => absurd (h1.2.trans h2.2.symm) h)
  exact kk _ _ _ _ _ hG hX hY (hD.S s1 s2 hX0_ rfl rfl rfl rfl) hl
