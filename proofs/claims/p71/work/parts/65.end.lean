set_option maxHeartbeats 4000000 in
set_option maxRecDepth 100000 in
theorem law_out {p : Program} {l : Launch} {e : Env} {s : State} {m : MethodId} {below : List Frame} {meth : Method} {c : Code} {b : Nat} {E : gE} {H : Heap} {locs : List Loc} {cells slots : Nat} {ls : Array Slot} (C : gC E cL_law 4 RL p s m #[Value.ref b] meth c) (hr : meth.sig.returnType = ret) (hS : va_S (fun q : Nat => s.heap.size ≤ q) s.heap H locs) (hc : cells ≤ 600000) (hs : slots ≤ 7302249) : W p l e room_1 s m #[Value.ref b] below meth c H locs cells slots (lw_Z below #[Value.ref b] s) (F0 m 2124 ls []) := by
  have hx := C.1
  have hb := C.2.1
  refine lv_iconst (v := (1 : Int32)) hx hb dL_law_2124 (by decide) ?_
  refine va_forget hS.2.2 ?_
  refine W.widen (k := 600000) (n := 7302249) hc hs ?_
  exact lw_ret hx hb hr C.2.2.2.2.2.2 dL_law_2125
set_option maxHeartbeats 4000000 in
set_option maxRecDepth 100000 in
theorem law_loop {p : Program} {l : Launch} {e : Env} {s : State} {m : MethodId} {below : List Frame} {meth : Method} {c : Code} {b n : Nat} {sc : Nat → Int32} {E : gE} {J : Nat → Nat} {L K : List Nat} {τ σ : Nat → Nat} {x y : Nat} {cells slots : Nat} (Z : gLw E p s m meth c b n sc) (hO : oW J (fun q : Nat => s.heap.size ≤ q) s s.heap) (hn : n ≤ 3072) (hc : cells ≤ 600000) (hs : slots ≤ 7302249) : ∀ (w : Nat) (i : Int32) (f k : gF) (H : Heap) (locs : List Loc) (ls : Array Slot), (n : Int) - i.toInt < (w : Int) → 0 ≤ i.toInt → i.toInt ≤ (n : Int) → gG E (fun q : Nat => s.heap.size ≤ q) L f K k s.heap H locs → iX E L τ f x → iY E K σ k y → rel E L τ f x K σ k → lv_has ls 4 [(3, .int i), (2, .ref y), (1, .ref x), (0, .ref b)] → W p l e room_1 s m #[Value.ref b] below meth c H locs cells slots (lw_Z below #[Value.ref b] s) (F0 m 18 ls []) := by
  intro w
  induction w with
  | zero =>
    intro i f k H locs ls hw h0 hi
    exact absurd hw (by omega)
  | succ w ih =>
    intro i f k H locs ls hw h0 hi hG hX hY hD hl
    have C := Z.1
    have hx := C.1
    have hb := C.2.1
    have hbA : ¬ (fun q : Nat => s.heap.size ≤ q) b := Nat.not_le.mpr Z.2.2.2
    refine lv_iload_n hx hb dL_law_18 rfl (lv_at hl 0 rfl) ?_
    refine lv_aload_n hx hb dL_law_19 rfl (lv_at hl 3 rfl) ?_
    refine va_slen hx hb Z.2.2.1 Z.2.2.2 hbA hG.1.2.2 dL_law_20 ?_
    refine lv_bipush (v := (6 : Int32)) hx hb dL_law_21 (by decide) ?_
    refine lv_isub hx hb dL_law_23 ?_
    refine lv_topi (fun z ez => ?_)
    have hz := lw_z hn ez
    refine lv_icmp_gt (tgt := 2124) hx hb dL_law_24 (by decide) (fun h => ?_) (fun h => ?_)
    · exact law_out Z.1 Z.2.1 hG.1.2.2 hc hs
    · have h6 : i.toInt + 6 ≤ (n : Int) := by
        have h7 := n_lt h
        omega
      have hk : lwK p l e s m below meth c b E L K τ σ x y cells slots i := fun f1 k1 H1 locs1 ls1 hG1 hX1 hY1 hD1 hl1 => by
        obtain ⟨j, ej⟩ : ∃ q : Int32, q = i + (6 : Int32) := ⟨_, rfl⟩
        have hj := lw_6 h0 h6 hn ej
        refine lv_iinc (v := j) (lv' := [(3, .int j), (2, .ref y), (1, .ref x), (0, .ref b)]) hx hb dL_law_2118 hl1 (k := 0) rfl (by rw [ej]; rfl) (by decide) rfl (fun ls hl => ?_)
        refine lv_goto (tgt := 18) hx hb dL_law_2121 (by decide) ?_
        exact ih j f1 k1 H1 locs1 ls (by omega) (by omega) (by omega) hG1 hX1 hY1 hD1 hl
      refine lv_aload_n hx hb dL_law_27 rfl (lv_at hl 3 rfl) ?_
      refine lv_iload_n hx hb dL_law_28 rfl (lv_at hl 0 rfl) ?_
      refine va_sld hx hb Z.2.2.1 Z.2.2.2 hbA hG.1.2.2 (lw_in0 h0 h6) dL_law_29 ?_
      refine lv_bipush (v := (127 : Int32)) hx hb dL_law_30 (by decide) ?_
      refine lv_iand hx hb dL_law_32 ?_
      refine lv_topi (fun z ez => ?_)
      rcases g_sw z 0 69 (by decide) with h | ⟨j, hj, ej⟩
      · refine lv_tableOut (tgt := 2118) hx hb dL_law_33 h (by decide) ?_
        exact hk _ _ _ _ _ hG hX hY hD hl
      · rcases (show (0 ≤ j ∧ j < 10) ∨ (10 ≤ j ∧ j < 20) ∨ (20 ≤ j ∧ j < 30) ∨ (30 ≤ j ∧ j < 40) ∨ (40 ≤ j ∧ j < 50) ∨ (50 ≤ j ∧ j < 60) ∨ (60 ≤ j ∧ j < 70) by omega) with hj | hj | hj | hj | hj | hj | hj
        · rcases (show j = 0 ∨ j = 1 ∨ j = 2 ∨ j = 3 ∨ j = 4 ∨ j = 5 ∨ j = 6 ∨ j = 7 ∨ j = 8 ∨ j = 9 by omega) with rfl | rfl | rfl | rfl | rfl | rfl | rfl | rfl | rfl | rfl
          · obtain rfl : z = (0 : Int32) := g_swE ej (by decide)
            refine lv_tableIn (tgt := 328) (off := 295) hx hb dL_law_33 (by decide) (by decide) (by decide) (by decide) ?_
            exact law_0 Z hO hn hc hs h0 h6 hG hX hY hD hl hk
          · obtain rfl : z = (1 : Int32) := g_swE ej (by decide)
            refine lv_tableIn (tgt := 391) (off := 358) hx hb dL_law_33 (by decide) (by decide) (by decide) (by decide) ?_
            exact law_1 Z hO hn hc hs h0 h6 hG hX hY hD hl hk
          · obtain rfl : z = (2 : Int32) := g_swE ej (by decide)
            refine lv_tableIn (tgt := 414) (off := 381) hx hb dL_law_33 (by decide) (by decide) (by decide) (by decide) ?_
            exact law_2 Z hO hn hc hs h0 h6 hG hX hY hD hl hk
          · obtain rfl : z = (3 : Int32) := g_swE ej (by decide)
            refine lv_tableIn (tgt := 427) (off := 394) hx hb dL_law_33 (by decide) (by decide) (by decide) (by decide) ?_
            exact law_3 Z hO hn hc hs h0 h6 hG hX hY hD hl hk
          · obtain rfl : z = (4 : Int32) := g_swE ej (by decide)
            refine lv_tableIn (tgt := 450) (off := 417) hx hb dL_law_33 (by decide) (by decide) (by decide) (by decide) ?_
            exact law_4 Z hO hn hc hs h0 h6 hG hX hY hD hl hk
          · obtain rfl : z = (5 : Int32) := g_swE ej (by decide)
            refine lv_tableIn (tgt := 483) (off := 450) hx hb dL_law_33 (by decide) (by decide) (by decide) (by decide) ?_
            exact law_5 Z hO hn hc hs h0 h6 hG hX hY hD hl hk
          · obtain rfl : z = (6 : Int32) := g_swE ej (by decide)
            refine lv_tableIn (tgt := 516) (off := 483) hx hb dL_law_33 (by decide) (by decide) (by decide) (by decide) ?_
            exact law_6 Z hO hn hc hs h0 h6 hG hX hY hD hl hk
          · obtain rfl : z = (7 : Int32) := g_swE ej (by decide)
            refine lv_tableIn (tgt := 529) (off := 496) hx hb dL_law_33 (by decide) (by decide) (by decide) (by decide) ?_
            exact law_7 Z hO hn hc hs h0 h6 hG hX hY hD hl hk
          · obtain rfl : z = (8 : Int32) := g_swE ej (by decide)
            refine lv_tableIn (tgt := 562) (off := 529) hx hb dL_law_33 (by decide) (by decide) (by decide) (by decide) ?_
            exact law_8 Z hO hn hc hs h0 h6 hG hX hY hD hl hk
          · obtain rfl : z = (9 : Int32) := g_swE ej (by decide)
            refine lv_tableIn (tgt := 595) (off := 562) hx hb dL_law_33 (by decide) (by decide) (by decide) (by decide) ?_
            exact law_9 Z hO hn hc hs h0 h6 hG hX hY hD hl hk
        · rcases (show j = 10 ∨ j = 11 ∨ j = 12 ∨ j = 13 ∨ j = 14 ∨ j = 15 ∨ j = 16 ∨ j = 17 ∨ j = 18 ∨ j = 19 by omega) with rfl | rfl | rfl | rfl | rfl | rfl | rfl | rfl | rfl | rfl
          · obtain rfl : z = (10 : Int32) := g_swE ej (by decide)
            refine lv_tableIn (tgt := 618) (off := 585) hx hb dL_law_33 (by decide) (by decide) (by decide) (by decide) ?_
            exact law_10 Z hO hn hc hs h0 h6 hG hX hY hD hl hk
          · obtain rfl : z = (11 : Int32) := g_swE ej (by decide)
            refine lv_tableIn (tgt := 641) (off := 608) hx hb dL_law_33 (by decide) (by decide) (by decide) (by decide) ?_
            exact law_11 Z hO hn hc hs h0 h6 hG hX hY hD hl hk
          · obtain rfl : z = (12 : Int32) := g_swE ej (by decide)
            refine lv_tableIn (tgt := 664) (off := 631) hx hb dL_law_33 (by decide) (by decide) (by decide) (by decide) ?_
            exact law_12 Z hO hn hc hs h0 h6 hG hX hY hD hl hk
          · obtain rfl : z = (13 : Int32) := g_swE ej (by decide)
            refine lv_tableIn (tgt := 687) (off := 654) hx hb dL_law_33 (by decide) (by decide) (by decide) (by decide) ?_
            exact law_13 Z hO hn hc hs h0 h6 hG hX hY hD hl hk
          · obtain rfl : z = (14 : Int32) := g_swE ej (by decide)
            refine lv_tableIn (tgt := 720) (off := 687) hx hb dL_law_33 (by decide) (by decide) (by decide) (by decide) ?_
            exact law_14 Z hO hn hc hs h0 h6 hG hX hY hD hl hk
          · obtain rfl : z = (15 : Int32) := g_swE ej (by decide)
            refine lv_tableIn (tgt := 753) (off := 720) hx hb dL_law_33 (by decide) (by decide) (by decide) (by decide) ?_
            exact law_15 Z hO hn hc hs h0 h6 hG hX hY hD hl hk
          · obtain rfl : z = (16 : Int32) := g_swE ej (by decide)
            refine lv_tableIn (tgt := 776) (off := 743) hx hb dL_law_33 (by decide) (by decide) (by decide) (by decide) ?_
            exact law_16 Z hO hn hc hs h0 h6 hG hX hY hD hl hk
          · obtain rfl : z = (17 : Int32) := g_swE ej (by decide)
            refine lv_tableIn (tgt := 799) (off := 766) hx hb dL_law_33 (by decide) (by decide) (by decide) (by decide) ?_
            exact law_17 Z hO hn hc hs h0 h6 hG hX hY hD hl hk
          · obtain rfl : z = (18 : Int32) := g_swE ej (by decide)
            refine lv_tableIn (tgt := 812) (off := 779) hx hb dL_law_33 (by decide) (by decide) (by decide) (by decide) ?_
            exact law_18 Z hO hn hc hs h0 h6 hG hX hY hD hl hk
          · obtain rfl : z = (19 : Int32) := g_swE ej (by decide)
            refine lv_tableIn (tgt := 825) (off := 792) hx hb dL_law_33 (by decide) (by decide) (by decide) (by decide) ?_
            exact law_19 Z hO hn hc hs h0 h6 hG hX hY hD hl hk
        · rcases (show j = 20 ∨ j = 21 ∨ j = 22 ∨ j = 23 ∨ j = 24 ∨ j = 25 ∨ j = 26 ∨ j = 27 ∨ j = 28 ∨ j = 29 by omega) with rfl | rfl | rfl | rfl | rfl | rfl | rfl | rfl | rfl | rfl
          · obtain rfl : z = (20 : Int32) := g_swE ej (by decide)
            refine lv_tableIn (tgt := 838) (off := 805) hx hb dL_law_33 (by decide) (by decide) (by decide) (by decide) ?_
            exact law_20 Z hO hn hc hs h0 h6 hG hX hY hD hl hk
          · obtain rfl : z = (21 : Int32) := g_swE ej (by decide)
            refine lv_tableIn (tgt := 851) (off := 818) hx hb dL_law_33 (by decide) (by decide) (by decide) (by decide) ?_
            exact law_21 Z hO hn hc hs h0 h6 hG hX hY hD hl hk
          · obtain rfl : z = (22 : Int32) := g_swE ej (by decide)
            refine lv_tableIn (tgt := 864) (off := 831) hx hb dL_law_33 (by decide) (by decide) (by decide) (by decide) ?_
            exact law_22 Z hO hn hc hs h0 h6 hG hX hY hD hl hk
          · obtain rfl : z = (23 : Int32) := g_swE ej (by decide)
            refine lv_tableIn (tgt := 877) (off := 844) hx hb dL_law_33 (by decide) (by decide) (by decide) (by decide) ?_
            exact law_23 Z hO hn hc hs h0 h6 hG hX hY hD hl hk
          · obtain rfl : z = (24 : Int32) := g_swE ej (by decide)
            refine lv_tableIn (tgt := 890) (off := 857) hx hb dL_law_33 (by decide) (by decide) (by decide) (by decide) ?_
            exact law_24 Z hO hn hc hs h0 h6 hG hX hY hD hl hk
          · obtain rfl : z = (25 : Int32) := g_swE ej (by decide)
            refine lv_tableIn (tgt := 913) (off := 880) hx hb dL_law_33 (by decide) (by decide) (by decide) (by decide) ?_
            exact law_25 Z hO hn hc hs h0 h6 hG hX hY hD hl hk
          · obtain rfl : z = (26 : Int32) := g_swE ej (by decide)
            refine lv_tableIn (tgt := 926) (off := 893) hx hb dL_law_33 (by decide) (by decide) (by decide) (by decide) ?_
            exact law_26 Z hO hn hc hs h0 h6 hG hX hY hD hl hk
          · obtain rfl : z = (27 : Int32) := g_swE ej (by decide)
            refine lv_tableIn (tgt := 959) (off := 926) hx hb dL_law_33 (by decide) (by decide) (by decide) (by decide) ?_
            exact law_27 Z hO hn hc hs h0 h6 hG hX hY hD hl hk
          · obtain rfl : z = (28 : Int32) := g_swE ej (by decide)
            refine lv_tableIn (tgt := 972) (off := 939) hx hb dL_law_33 (by decide) (by decide) (by decide) (by decide) ?_
            exact law_28 Z hO hn hc hs h0 h6 hG hX hY hD hl hk
          · obtain rfl : z = (29 : Int32) := g_swE ej (by decide)
            refine lv_tableIn (tgt := 995) (off := 962) hx hb dL_law_33 (by decide) (by decide) (by decide) (by decide) ?_
            exact law_29 Z hO hn hc hs h0 h6 hG hX hY hD hl hk
        · rcases (show j = 30 ∨ j = 31 ∨ j = 32 ∨ j = 33 ∨ j = 34 ∨ j = 35 ∨ j = 36 ∨ j = 37 ∨ j = 38 ∨ j = 39 by omega) with rfl | rfl | rfl | rfl | rfl | rfl | rfl | rfl | rfl | rfl
          · obtain rfl : z = (30 : Int32) := g_swE ej (by decide)
            refine lv_tableIn (tgt := 1018) (off := 985) hx hb dL_law_33 (by decide) (by decide) (by decide) (by decide) ?_
            exact law_30 Z hO hn hc hs h0 h6 hG hX hY hD hl hk
          · obtain rfl : z = (31 : Int32) := g_swE ej (by decide)
            refine lv_tableIn (tgt := 1041) (off := 1008) hx hb dL_law_33 (by decide) (by decide) (by decide) (by decide) ?_
            exact law_31 Z hO hn hc hs h0 h6 hG hX hY hD hl hk
          · obtain rfl : z = (32 : Int32) := g_swE ej (by decide)
            refine lv_tableIn (tgt := 1064) (off := 1031) hx hb dL_law_33 (by decide) (by decide) (by decide) (by decide) ?_
            exact law_32 Z hO hn hc hs h0 h6 hG hX hY hD hl hk
          · obtain rfl : z = (33 : Int32) := g_swE ej (by decide)
            refine lv_tableIn (tgt := 1087) (off := 1054) hx hb dL_law_33 (by decide) (by decide) (by decide) (by decide) ?_
            exact law_33 Z hO hn hc hs h0 h6 hG hX hY hD hl hk
          · obtain rfl : z = (34 : Int32) := g_swE ej (by decide)
            refine lv_tableIn (tgt := 1110) (off := 1077) hx hb dL_law_33 (by decide) (by decide) (by decide) (by decide) ?_
            exact law_34 Z hO hn hc hs h0 h6 hG hX hY hD hl hk
          · obtain rfl : z = (35 : Int32) := g_swE ej (by decide)
            refine lv_tableIn (tgt := 1133) (off := 1100) hx hb dL_law_33 (by decide) (by decide) (by decide) (by decide) ?_
            exact law_35 Z hO hn hc hs h0 h6 hG hX hY hD hl hk
          · obtain rfl : z = (36 : Int32) := g_swE ej (by decide)
            refine lv_tableIn (tgt := 1146) (off := 1113) hx hb dL_law_33 (by decide) (by decide) (by decide) (by decide) ?_
            exact law_36 Z hO hn hc hs h0 h6 hG hX hY hD hl hk
          · obtain rfl : z = (37 : Int32) := g_swE ej (by decide)
            refine lv_tableIn (tgt := 1159) (off := 1126) hx hb dL_law_33 (by decide) (by decide) (by decide) (by decide) ?_
            exact law_37 Z hO hn hc hs h0 h6 hG hX hY hD hl hk
          · obtain rfl : z = (38 : Int32) := g_swE ej (by decide)
            refine lv_tableIn (tgt := 1182) (off := 1149) hx hb dL_law_33 (by decide) (by decide) (by decide) (by decide) ?_
            exact law_38 Z hO hn hc hs h0 h6 hG hX hY hD hl hk
          · obtain rfl : z = (39 : Int32) := g_swE ej (by decide)
            refine lv_tableIn (tgt := 1195) (off := 1162) hx hb dL_law_33 (by decide) (by decide) (by decide) (by decide) ?_
            exact law_39 Z hO hn hc hs h0 h6 hG hX hY hD hl hk
        · rcases (show j = 40 ∨ j = 41 ∨ j = 42 ∨ j = 43 ∨ j = 44 ∨ j = 45 ∨ j = 46 ∨ j = 47 ∨ j = 48 ∨ j = 49 by omega) with rfl | rfl | rfl | rfl | rfl | rfl | rfl | rfl | rfl | rfl
          · obtain rfl : z = (40 : Int32) := g_swE ej (by decide)
            refine lv_tableIn (tgt := 1218) (off := 1185) hx hb dL_law_33 (by decide) (by decide) (by decide) (by decide) ?_
            exact law_40 Z hO hn hc hs h0 h6 hG hX hY hD hl hk
          · obtain rfl : z = (41 : Int32) := g_swE ej (by decide)
            refine lv_tableIn (tgt := 1241) (off := 1208) hx hb dL_law_33 (by decide) (by decide) (by decide) (by decide) ?_
            exact law_41 Z hO hn hc hs h0 h6 hG hX hY hD hl hk
          · obtain rfl : z = (42 : Int32) := g_swE ej (by decide)
            refine lv_tableIn (tgt := 1264) (off := 1231) hx hb dL_law_33 (by decide) (by decide) (by decide) (by decide) ?_
            exact law_42 Z hO hn hc hs h0 h6 hG hX hY hD hl hk
          · obtain rfl : z = (43 : Int32) := g_swE ej (by decide)
            refine lv_tableIn (tgt := 1287) (off := 1254) hx hb dL_law_33 (by decide) (by decide) (by decide) (by decide) ?_
            exact law_43 Z hO hn hc hs h0 h6 hG hX hY hD hl hk
          · obtain rfl : z = (44 : Int32) := g_swE ej (by decide)
            refine lv_tableIn (tgt := 1310) (off := 1277) hx hb dL_law_33 (by decide) (by decide) (by decide) (by decide) ?_
            exact law_44 Z hO hn hc hs h0 h6 hG hX hY hD hl hk
          · obtain rfl : z = (45 : Int32) := g_swE ej (by decide)
            refine lv_tableIn (tgt := 1333) (off := 1300) hx hb dL_law_33 (by decide) (by decide) (by decide) (by decide) ?_
            exact law_45 Z hO hn hc hs h0 h6 hG hX hY hD hl hk
          · obtain rfl : z = (46 : Int32) := g_swE ej (by decide)
            refine lv_tableIn (tgt := 1376) (off := 1343) hx hb dL_law_33 (by decide) (by decide) (by decide) (by decide) ?_
            exact law_46 Z hO hn hc hs h0 h6 hG hX hY hD hl hk
          · obtain rfl : z = (47 : Int32) := g_swE ej (by decide)
            refine lv_tableIn (tgt := 1389) (off := 1356) hx hb dL_law_33 (by decide) (by decide) (by decide) (by decide) ?_
            exact law_47 Z hO hn hc hs h0 h6 hG hX hY hD hl hk
          · obtain rfl : z = (48 : Int32) := g_swE ej (by decide)
            refine lv_tableIn (tgt := 1412) (off := 1379) hx hb dL_law_33 (by decide) (by decide) (by decide) (by decide) ?_
            exact law_48 Z hO hn hc hs h0 h6 hG hX hY hD hl hk
          · obtain rfl : z = (49 : Int32) := g_swE ej (by decide)
            refine lv_tableIn (tgt := 1425) (off := 1392) hx hb dL_law_33 (by decide) (by decide) (by decide) (by decide) ?_
            exact law_49 Z hO hn hc hs h0 h6 hG hX hY hD hl hk
        · rcases (show j = 50 ∨ j = 51 ∨ j = 52 ∨ j = 53 ∨ j = 54 ∨ j = 55 ∨ j = 56 ∨ j = 57 ∨ j = 58 ∨ j = 59 by omega) with rfl | rfl | rfl | rfl | rfl | rfl | rfl | rfl | rfl | rfl
          · obtain rfl : z = (50 : Int32) := g_swE ej (by decide)
            refine lv_tableIn (tgt := 1438) (off := 1405) hx hb dL_law_33 (by decide) (by decide) (by decide) (by decide) ?_
            exact law_50 Z hO hn hc hs h0 h6 hG hX hY hD hl hk
          · obtain rfl : z = (51 : Int32) := g_swE ej (by decide)
            refine lv_tableIn (tgt := 1461) (off := 1428) hx hb dL_law_33 (by decide) (by decide) (by decide) (by decide) ?_
            exact law_51 Z hO hn hc hs h0 h6 hG hX hY hD hl hk
          · obtain rfl : z = (52 : Int32) := g_swE ej (by decide)
            refine lv_tableIn (tgt := 1494) (off := 1461) hx hb dL_law_33 (by decide) (by decide) (by decide) (by decide) ?_
            exact law_52 Z hO hn hc hs h0 h6 hG hX hY hD hl hk
          · obtain rfl : z = (53 : Int32) := g_swE ej (by decide)
            refine lv_tableIn (tgt := 1527) (off := 1494) hx hb dL_law_33 (by decide) (by decide) (by decide) (by decide) ?_
            exact law_53 Z hO hn hc hs h0 h6 hG hX hY hD hl hk
          · obtain rfl : z = (54 : Int32) := g_swE ej (by decide)
            refine lv_tableIn (tgt := 1580) (off := 1547) hx hb dL_law_33 (by decide) (by decide) (by decide) (by decide) ?_
            exact law_54 Z hO hn hc hs h0 h6 hG hX hY hD hl hk
          · obtain rfl : z = (55 : Int32) := g_swE ej (by decide)
            refine lv_tableIn (tgt := 1613) (off := 1580) hx hb dL_law_33 (by decide) (by decide) (by decide) (by decide) ?_
            exact law_55 Z hO hn hc hs h0 h6 hG hX hY hD hl hk
          · obtain rfl : z = (56 : Int32) := g_swE ej (by decide)
            refine lv_tableIn (tgt := 1636) (off := 1603) hx hb dL_law_33 (by decide) (by decide) (by decide) (by decide) ?_
            exact law_56 Z hO hn hc hs h0 h6 hG hX hY hD hl hk
          · obtain rfl : z = (57 : Int32) := g_swE ej (by decide)
            refine lv_tableIn (tgt := 1669) (off := 1636) hx hb dL_law_33 (by decide) (by decide) (by decide) (by decide) ?_
            exact law_57 Z hO hn hc hs h0 h6 hG hX hY hD hl hk
          · obtain rfl : z = (58 : Int32) := g_swE ej (by decide)
            refine lv_tableIn (tgt := 1702) (off := 1669) hx hb dL_law_33 (by decide) (by decide) (by decide) (by decide) ?_
            exact law_58 Z hO hn hc hs h0 h6 hG hX hY hD hl hk
          · obtain rfl : z = (59 : Int32) := g_swE ej (by decide)
            refine lv_tableIn (tgt := 1735) (off := 1702) hx hb dL_law_33 (by decide) (by decide) (by decide) (by decide) ?_
            exact law_59 Z hO hn hc hs h0 h6 hG hX hY hD hl hk
        · rcases (show j = 60 ∨ j = 61 ∨ j = 62 ∨ j = 63 ∨ j = 64 ∨ j = 65 ∨ j = 66 ∨ j = 67 ∨ j = 68 ∨ j = 69 by omega) with rfl | rfl | rfl | rfl | rfl | rfl | rfl | rfl | rfl | rfl
          · obtain rfl : z = (60 : Int32) := g_swE ej (by decide)
            refine lv_tableIn (tgt := 1748) (off := 1715) hx hb dL_law_33 (by decide) (by decide) (by decide) (by decide) ?_
            exact law_60 Z hO hn hc hs h0 h6 hG hX hY hD hl hk
          · obtain rfl : z = (61 : Int32) := g_swE ej (by decide)
            refine lv_tableIn (tgt := 1761) (off := 1728) hx hb dL_law_33 (by decide) (by decide) (by decide) (by decide) ?_
            exact law_61 Z hO hn hc hs h0 h6 hG hX hY hD hl hk
          · obtain rfl : z = (62 : Int32) := g_swE ej (by decide)
            refine lv_tableIn (tgt := 1794) (off := 1761) hx hb dL_law_33 (by decide) (by decide) (by decide) (by decide) ?_
            exact law_62 Z hO hn hc hs h0 h6 hG hX hY hD hl hk
          · obtain rfl : z = (63 : Int32) := g_swE ej (by decide)
            refine lv_tableIn (tgt := 1837) (off := 1804) hx hb dL_law_33 (by decide) (by decide) (by decide) (by decide) ?_
            exact law_63 Z hO hn hc hs h0 h6 hG hX hY hD hl hk
          · obtain rfl : z = (64 : Int32) := g_swE ej (by decide)
            refine lv_tableIn (tgt := 1870) (off := 1837) hx hb dL_law_33 (by decide) (by decide) (by decide) (by decide) ?_
            exact law_64 Z hO hn hc hs h0 h6 hG hX hY hD hl hk
          · obtain rfl : z = (65 : Int32) := g_swE ej (by decide)
            refine lv_tableIn (tgt := 1893) (off := 1860) hx hb dL_law_33 (by decide) (by decide) (by decide) (by decide) ?_
            exact law_65 Z hO hn hc hs h0 h6 hG hX hY hD hl hk
          · obtain rfl : z = (66 : Int32) := g_swE ej (by decide)
            refine lv_tableIn (tgt := 1916) (off := 1883) hx hb dL_law_33 (by decide) (by decide) (by decide) (by decide) ?_
            exact law_66 Z hO hn hc hs h0 h6 hG hX hY hD hl hk
          · obtain rfl : z = (67 : Int32) := g_swE ej (by decide)
            refine lv_tableIn (tgt := 1939) (off := 1906) hx hb dL_law_33 (by decide) (by decide) (by decide) (by decide) ?_
            exact law_67 Z hO hn hc hs h0 h6 hG hX hY hD hl hk
          · obtain rfl : z = (68 : Int32) := g_swE ej (by decide)
            refine lv_tableIn (tgt := 1982) (off := 1949) hx hb dL_law_33 (by decide) (by decide) (by decide) (by decide) ?_
            exact law_68 Z hO hn hc hs h0 h6 hG hX hY hD hl hk
          · obtain rfl : z = (69 : Int32) := g_swE ej (by decide)
            refine lv_tableIn (tgt := 2055) (off := 2022) hx hb dL_law_33 (by decide) (by decide) (by decide) (by decide) ?_
            exact law_69 Z hO hn hc hs h0 h6 hG hX hY hD hl hk
set_option maxHeartbeats 4000000 in
set_option maxRecDepth 100000 in
theorem whole_start {p : Program} {e : Env} {s : State} {m : MethodId} {below : List Frame} {meth : Method} {c : Code} (l : Launch) (hflags : l.flags = flags0) {b L : Nat} {xs : Nat → Int32} (hL : L ≤ 3072) (C0 : lw_At p s m meth c b L xs) : W p l e room_1 s m #[Value.ref b] below meth c s.heap [] 0 0 (lw_Z below #[Value.ref b] s) (entryFrame m ([Value.ref b] : List Value).toArray 4) := by
  obtain ⟨hx, hb, hr, hml, hown, hts, hX, hbl, hlocks, hgv⟩ := id C0
  obtain ⟨E, hK⟩ := g_start hts
  obtain ⟨J, hO⟩ := oW_start hgv hts
  have C : gC E cL_law 4 RL p s m #[Value.ref b] meth c := ⟨hx, hb, hml, hown, fun w h => hts w (List.mem_filter.mp h).1, hK, hlocks⟩
  have hA : ∀ q : Nat, s.heap.size ≤ q → (fun q : Nat => s.heap.size ≤ q) q := fun _ h => h
  have hl := lv_entry ([.ref b]) (n := 4) (Nat.le_of_ble_eq_true rfl)
  rw [lg_entry_eq]
  generalize (lg_sl ([.ref b]) ++ List.replicate (4 - (lg_sl ([.ref b])).length) Slot.unset).toArray = ls at hl ⊢
  have hl : lv_has ls 4 [(0, .ref b)] := hl
  have hH : gH E (fun q : Nat => s.heap.size ≤ q) [] (fun _ => .inr (0, [])) s.heap s.heap [] := ⟨fun k q h => by simp [va_pl] at h, ⟨fun i j p q h => by simp [va_pl] at h, fun k q h => by simp [va_pl] at h⟩, va_S.rf⟩
  refine g_new C hH hA (ci := 9) iX9 tyX9 tyX9_ok wd1791 wd1228 wd2 rfl (fs := [.null, .null, .null, .null, .null, .null, .null, .null, .null, .null, .null]) (dvX9) (Nat.le_of_ble_eq_true rfl) (Nat.le_of_ble_eq_true rfl) dL_law_0 (fun x H nx hH => ?_)
  refine lv_dup hx hb dL_law_3 rfl ?_
  refine g_Iv C hl.1 hA hH (As := []) (rest := [.ref x]) (kt_Desk l E _ (fun _ => 0) _ (List.mem_append_right _ List.mem_cons_self) rfl (va_up_self _ _ _) (fun a ha hX => absurd ha hX) (fun _ _ => rfl)) my_X9_init wd1794 rfl rfl (Nat.le_of_ble_eq_true rfl) ⟨(Nat.le_of_ble_eq_true rfl), (Nat.le_of_ble_eq_true rfl)⟩ ⟨(Nat.le_of_ble_eq_true rfl), (Nat.le_of_ble_eq_true rfl)⟩ dL_law_4 (fun L1 f1 H locs hp hH => ?_)
  obtain ⟨τ, x1, x2, x3, x4, x6, x7⟩ := hp
  have hX0 : iX E L1 τ f1 x := ⟨x1, x2, x3, x4⟩
  refine lv_astore_n (lv' := [(1, .ref x), (0, .ref b)]) hx hb dL_law_7 rfl hl (by decide) rfl (fun ls hl => ?_)
  refine g_new C hH hA (ci := 10) iX10 tyX10 tyX10_ok wd1795 wd1229 wd742 rfl (fs := [.int (0 : Int32), .null, .null, .null, .null, .null, .int (0 : Int32), .int (0 : Int32), .int (0 : Int32), .int (0 : Int32), .int (0 : Int32), .long (0 : Int64), .int (0 : Int32), .int (0 : Int32), .int (0 : Int32), .int (0 : Int32), .null, .null, .null, .null, .null, .null, .int (0 : Int32), .int (0 : Int32), .int (0 : Int32), .null, .null, .null, .null, .null, .null, .null, .null, .null, .null, .null, .int (0 : Int32), .int (0 : Int32), .null, .int (0 : Int32), .int (0 : Int32), .null, .null, .int (0 : Int32), .int (0 : Int32), .int (0 : Int32), .int (0 : Int32), .int (0 : Int32)]) (dvX10) (Nat.le_of_ble_eq_true rfl) (Nat.le_of_ble_eq_true rfl) dL_law_8 (fun y H ny hH => ?_)
  have hG := g_split ny hH
  refine lv_dup hx hb dL_law_11 rfl ?_
  refine g_IvG C hl.1 hA hG (As := []) (rest := [.ref y]) (kt_Model l E _ (fun _ => 40) _ List.mem_cons_self rfl (va_up_self _ _ _) (fun a ha hX => absurd ha hX) ⟨fun _ _ => (by decide : (40 : Nat) < 41), fun a ha b hb _ => (List.mem_singleton.mp ha).trans (List.mem_singleton.mp hb).symm⟩) my_X10_init wd1798 rfl rfl (Nat.le_of_ble_eq_true rfl) ⟨(Nat.le_of_ble_eq_true rfl), (Nat.le_of_ble_eq_true rfl)⟩ ⟨(Nat.le_of_ble_eq_true rfl), (Nat.le_of_ble_eq_true rfl)⟩ dL_law_12 (fun K1 k1 H locs hp hG => ?_)
  obtain ⟨σ, y1, y2, y3, y4, y5, y6, y7, y8⟩ := hp
  have hY0 : iY E K1 σ k1 y := ⟨y1, y2, y3, y4, _, _, y5, y6, rowsR_z⟩
  have hG := hG.swap
  obtain ⟨vw, yw, yj⟩ := y7
  have hD0 : rel E L1 τ f1 x K1 σ k1 := ⟨x6, vw, _, fun s a hs ha => by
    have h := x7 s a hs ha
    unfold rg at hs
    rw [yj s.toNatClampNeg (by show s.toInt.toNat < 4; omega)]
    exact h, yw, y8⟩
  refine lv_astore_n (lv' := [(2, .ref y), (1, .ref x), (0, .ref b)]) hx hb dL_law_15 rfl hl (by decide) rfl (fun ls hl => ?_)
  refine lv_iconst (v := (0 : Int32)) hx hb dL_law_16 (by decide) ?_
  refine lv_istore_n (lv' := [(3, .int (0 : Int32)), (2, .ref y), (1, .ref x), (0, .ref b)]) hx hb dL_law_17 rfl hl (by decide) rfl (fun ls hl => ?_)
  have t0 : (0 : Int32).toInt = 0 := by decide
  exact law_loop ⟨C, hr, hX, hbl⟩ hO hL (Nat.le_of_ble_eq_true rfl) (Nat.le_of_ble_eq_true rfl) (L + 1) 0 f1 k1 H locs ls (by omega) (by omega) (by omega) hG hX0 hY0 hD0 hl
-- ===== YOUR PART ENDS =====
set_option maxHeartbeats 4000000 in
theorem lw_walk (l : Launch) (hflags : l.flags = flags0) (b : Addr) (xs : List Int32) : MetFree l x (headSpec (Jvm.Cond.code x code maxLocals ret :: tables_1) room_1) (lw_P b xs) (fun _ _ _ _ _ => True) lw_Q := by
  refine MetFree.of_bodyS (code := code) (maxLocals := maxLocals) (ret := ret) (by decide) ?_ ?_
  · intro args s m h hn
    obtain ⟨meth, c, h1, h2, h3, h4, h5, h6, -, -⟩ := Cond.code_spec hn (atoms_spec (ws := Jvm.Cond.code x code maxLocals ret :: tables_1) h _ List.mem_cons_self)
    exact ⟨meth, c, h1, h2, h3, h4, h5, h6⟩
  · intro p e s m args below meth c s₁ B hml0 hP _
    obtain ⟨rfl, hx, hbd, hgv⟩ := hP
    obtain ⟨scr, harrAt, hlist, hof, hsmall⟩ := hx
    obtain ⟨hcb, hkn, -, -⟩ := State.arrayAt?_spec harrAt
    have hown : s.vm.findClass R_law = some m.cls := findClass_of_methodNamed B.named
    have hts0 : ∀ c ∈ (Jvm.Cond.code x code maxLocals ret :: tables_1), c.before #[Value.ref b] s = true := atoms_spec (ws := Jvm.Cond.code x code maxLocals ret :: tables_1) B.pre
    have hts : ∀ w ∈ lw_tbl, w.before #[Value.ref b] s = true := k2_hts_sels lw_privs (fun w hw => hts0 w (List.mem_cons_of_mem _ hw)) lw_privs_ok
    have hml : c.maxLocals = 4 := B.maxLocals_eq (hts0 _ List.mem_cons_self)
    have X₀ : Stand p l e room_1 s m #[Value.ref b] below meth c s₁ [] 0 0 := Stand.of_body B
    have hh0 : s₁.heap = s.heap := by rw [B.state]; rfl
    have hsz : scr.slots.size = xs.length := by rw [← Array.length_toList, hlist, List.length_map]
    have hval : ∀ j : Nat, j < xs.length → scr.slots[j]? = some (.int (xs.getD j 0)) := fun j hj => by
      rw [← Array.getElem?_toList, hlist]
      simp [hj]
    have hbl : b < s.heap.size := (Array.getElem?_eq_some_iff.mp hcb).1
    have hX : va_X b xs.length (fun j => xs.getD j 0) s s.heap := ⟨scr, hcb, hof, hkn, hsz, hval⟩
    have K : W p l e room_1 s m #[Value.ref b] below meth c s₁.heap [] 0 0 (lw_Z below #[Value.ref b] s) (entryFrame m ([Value.ref b] : List Value).toArray 4) := by
      rw [hh0]
      exact whole_start l hflags hbd ⟨B.exec, B.bytes, B.returns, hml, hown, hts, hX, hbl, B.notSynchronized, hgv⟩
    obtain ⟨t, a1, o, b1, b2, b3⟩ := K s₁ rfl X₀
    exact ⟨t, o, a1, b1, b2, b3⟩
theorem lw_pre_spec {args : Array Value} {s : State} (h : (Jvm.Cond.and given_1 narrow_1).before args s = true) (hr : rest_1_c.before args s = true) : ∃ (b : Addr) (xs : List Int32), lw_P b xs args s := by
  have hs := flat_of_before _ h
  have hq := flat_of_before _ hr
  have hc : (Cond.count 1).before args s = true := hs _ (by decide +kernel)
  have harr : (Cond.arrayOf (.arg 0) .int).before args s = true := hs _ (by decide +kernel)
  have hle : (Cond.le (.length (.arg 0)) (.int 3072)).before args s = true := hs _ (by decide +kernel)
  have hlen : (Cond.isInt (.length (.arg 0))).before args s = true := hq _ (by decide +kernel)
  have hall : (Cond.all (.arg 0) (.isInt (.elem (.arg 0) (.index 0)))).before args s = true := hq _ (by decide +kernel)
  obtain ⟨b, xs, hb, hx⟩ := State.ints_of_pre rfl harr hlen hall
  have hsm : xs.length < 2 ^ 31 := hx.choose_spec.2.2.2
  have hev : (Term.length (.arg 0)).eval args s none [] s = some (.int xs.length.toInt32) := hx.length_eval hb
  have hv := Cond.le_ints hev (show (Term.int 3072).eval args s none [] s = some (.int 3072) from rfl)
  have hd : xs.length.toInt32 ≤ 3072 := by
    simpa [Cond.before, Cond.holds, hv] using hle
  have hN : xs.length ≤ 3072 := (Int32.ofNat_le_ofNat hsm (by decide)).mp (show Int32.ofNat xs.length ≤ Int32.ofNat 3072 from hd)
  exact ⟨b, xs, Cond.one_arg hc (show args[0]? = some (.ref b) from hb), hx, hN, h⟩
theorem lw_comes (l : Launch) (hflags : l.flags = flags0) : Comes l x (Jvm.Cond.code x code maxLocals ret :: tables_1) room_1 (fun tb e args s => Calls_1 tb e args s ∧ rest_1 tb e args s ∧ Pre_1 tb e args s)
    (fun _ _ args s o t => lw_Q args s o t) := by
  intro p e ha hc hk s m args below hf hfit hheap happ hpre
  obtain ⟨b, xs, hP⟩ := lw_pre_spec hpre.2.2 hpre.2.1
  obtain ⟨k, o, h1, h2, h3, hQ⟩ := lw_walk l hflags b xs p e ha hc hk s m args below hf ((Spec.applies_iff_loose hf).mp happ).1 hP trivial
  exact ⟨k, o, h1, h2, h3, hQ⟩
theorem lw_frame {s t : State} {o : Outcome} {args : Array Value} (h : Framed s o t [] 600000 7302249) :
    Framed s o t (fieldLocs frame_1_writes args s ++ arrayLocs frame_1_arrays args s ++ staticLocs frame_1_statics s) 600000 7302249 := h
theorem lw_limb (L : Cond) (hL : ∀ (args : Array Value) (s t : State), L.after args s (.returned (some (.int 1))) t = true) :
    ArmFor flags0 classFile x code maxLocals ret World_1 tables_1 room_1 Calls_1 rest_1 Pre_1
      (fun tb e a s o t => postC L tb e a s o t ∧ Framed s o t (fieldLocs frame_1_writes a s ++ arrayLocs frame_1_arrays a s ++ staticLocs frame_1_statics s) 600000 7302249) := by
  intro l hflags _ _ p e ha hc hk s m args below hf hfit hheap happ hpre
  obtain ⟨k, o, h1, h2, h3, rfl, hF⟩ := lw_comes l hflags p e ha hc hk s m args below hf hfit hheap happ hpre
  exact ⟨k, _, h1, h2, h3, hL args s _, lw_frame hF⟩
theorem i_vc : Claimed_1_1 ∧ Claimed_1_2 := ⟨lw_limb limb_1_1 (fun args s t => by simp [limb_1_1, Cond.after, Cond.holds, Cond.value]), lw_limb limb_1_2 (fun args s t => Cond.after_iff.mpr (by
  first | (rw [show limb_1_2 = Cond.eq .result (.int 1) from rfl, Cond.eq_ints (x := 1) (y := 1) rfl rfl]; simp; done) | (simp [limb_1_2, Cond.value, Term.eval]; done)))⟩

