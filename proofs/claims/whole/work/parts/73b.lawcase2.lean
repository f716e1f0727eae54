set_option maxHeartbeats 4000000 in
set_option maxRecDepth 100000 in
theorem lw_c18 {p : Program} {l : Launch} {e : Env} {s : State} {m : MethodId} {below : List Frame} {meth : Method} {c : Code} {b L : Nat} {xs : Nat → Int32} {Q : State → Prop} (hx : p.tables.exec = Jvm.exec) (hb : c.code = cL_law) (hml : c.maxLocals = 8) (hown : s.vm.findClass RL = some m.cls) (hts : ∀ w ∈ wsL_law, w.before #[Value.ref b] s = true) {D : va_G} {cA : Nat → ClassId} (hK : xK D cA s) {z o M h1 ou : Nat} {ad : Nat → Nat} (hX : lK (fun q => s.heap.size ≤ q) z s) (hXs : va_X b L xs s s.heap) (hbl : b < s.heap.size) (hL : L ≤ 3584) (hst : l.stackTraces = false) (h01 : s.heap.size ≤ h1) (h1u : h1 ≤ ou) {i : Nat} (hi9 : 7 * i + 7 ≤ L) {H : Heap} {locs : List Loc} {ls : Array Slot} (hI : LI D cA s.heap.size h1 ou z o M ad i H) (hS : va_S (fun q => s.heap.size ≤ q) s.heap H locs) (hl : lv_has ls 8 [(0, .ref b), (1, .ref o), (2, .ref M), (3, .ref ou), (4, .int (nI (7 * i)))]) (ih : ∀ (H2 : Heap) (locs2 : List Loc) (ls2 : Array Slot), LI D cA s.heap.size h1 ou z o M ad (i + 1) H2 → va_S (fun q => s.heap.size ≤ q) s.heap H2 locs2 → lv_has ls2 8 [(0, .ref b), (1, .ref o), (2, .ref M), (3, .ref ou), (4, .int (nI (7 * (i + 1))))] → W p l e room_1 s m #[Value.ref b] below meth c H2 locs2 (40 + 10 * (i + 1)) (70000 + 1200 * (i + 1)) Q (F0 m 23 ls2 [])) : W p l e room_1 s m #[Value.ref b] below meth c H locs (40 + 10 * i) (70000 + 1200 * i) Q (F0 m 1476 ls []) := by
  obtain ⟨hou9, ⟨o1, hO⟩, σ, nC, nL, nV, hM, hn, hC, hi, hv⟩ := hI
  have hi5 : i ≤ 511 := by omega
  refine lv_aload_n hx hb dL_law_1476 rfl (lv_at hl 1 rfl) ?_
  refine lv_aload_n hx hb dL_law_1477 rfl (lv_at hl 0 rfl) ?_
  refine lv_iload hx hb dL_law_1478 (lv_at hl 4 rfl) ?_
  refine lv_iconst (v := 1) hx hb dL_law_1480 (by decide) ?_
  refine xe_iadd hx hb (nI_add (7 * i) 1) dL_law_1481 ?_
  refine va_sld hx hb hXs hbl (Nat.not_le.mpr hbl) hS (vp_in_nI (show 7 * i + 1 < L by omega) (by omega)) dL_law_1482 ?_
  rw [nI_clamp (show 7 * i + 1 < 2 ^ 31 by omega)]
  refine lv_aload_n hx hb dL_law_1483 rfl (lv_at hl 0 rfl) ?_
  refine lv_iload hx hb dL_law_1484 (lv_at hl 4 rfl) ?_
  refine lv_iconst (v := 2) hx hb dL_law_1486 (by decide) ?_
  refine xe_iadd hx hb (nI_add (7 * i) 2) dL_law_1487 ?_
  refine va_sld hx hb hXs hbl (Nat.not_le.mpr hbl) hS (vp_in_nI (show 7 * i + 2 < L by omega) (by omega)) dL_law_1488 ?_
  rw [nI_clamp (show 7 * i + 2 < 2 ^ 31 by omega)]
  refine lv_aload_n hx hb dL_law_1489 rfl (lv_at hl 0 rfl) ?_
  refine lv_iload hx hb dL_law_1490 (lv_at hl 4 rfl) ?_
  refine lv_iconst (v := 3) hx hb dL_law_1492 (by decide) ?_
  refine xe_iadd hx hb (nI_add (7 * i) 3) dL_law_1493 ?_
  refine va_sld hx hb hXs hbl (Nat.not_le.mpr hbl) hS (vp_in_nI (show 7 * i + 3 < L by omega) (by omega)) dL_law_1494 ?_
  rw [nI_clamp (show 7 * i + 3 < 2 ^ 31 by omega)]
  refine lv_aload_n hx hb dL_law_1495 rfl (lv_at hl 3 rfl) ?_
  have hou8 : ¬ aC s.heap.size h1 ou ou := fun h => h.2.2 rfl
  have hAn : ∀ q, H.size ≤ q → aC s.heap.size h1 ou q := fun q h => ⟨by have := hS.1; omega, by omega, by omega⟩
  have hBA : ∀ q, (aC s.heap.size h1 ou q ∨ q = ou) → s.heap.size ≤ q := fun q h => h.elim (fun h => h.1) (fun e => by omega)
  refine xl_lcall (vx_runSW (As := [.ref o, .int (xs (7 * i + 1)), .int (xs (7 * i + 2)), .int (xs (7 * i + 3)), .ref ou]) (rest := []) ⟨hx, hb, hml, hown, hts⟩ (c_L_unlock l hst D cA (aC s.heap.size h1 ou) z o ou σ.2.1 nC nL nV hi H (xs (7 * i + 1)) (xs (7 * i + 2)) (xs (7 * i + 3)) hou8 hAn) (vx_cwSW 5 hts gL_law_L_unlock rfl rfl rfl (by decide +kernel) ⟨(Nat.le_of_ble_eq_true rfl), (Nat.le_of_ble_eq_true rfl)⟩) (xPXS hK lK.blind (fun U hU hW => hX.at hS hBA hU hW) ⟨rfl, hC, _, hO⟩) rfl rfl hl.1 rfl (lv_room (Nat.le_of_ble_eq_true rfl)) dL_law_1496 ⟨by show 40 + 10 * i + 3 ≤ 601024; omega, by show 70000 + 1200 * i + 18 ≤ 7293034; omega⟩) hS (fun q _ h => hBA q h) (fun q h => hBA q h) (fun H locs hJ z9 q9 hS => ?_)
  have hM := hM.keptA (fun q g1 g2 => q9 q g1 (fun h => h.elim (fun h => h.2.1 g2) (fun e => by have := g2.2; omega)))
  have hou9 : ou < H.size := Nat.lt_of_lt_of_le hou9 z9
  refine lv_istore (lv' := [(5, .int (kUn (mS σ.2.1) nL (xs (7 * i + 1)) (xs (7 * i + 2)) (xs (7 * i + 3)))), (0, .ref b), (1, .ref o), (2, .ref M), (3, .ref ou), (4, .int (nI (7 * i)))]) hx hb dL_law_1499 hl (by decide) rfl (fun ls hl => ?_)
  refine lv_aload_n hx hb dL_law_1501 rfl (lv_at hl 3 rfl) ?_
  refine lv_aload_n hx hb dL_law_1502 rfl (lv_at hl 1 rfl) ?_
  refine lv_iload hx hb dL_law_1503 (lv_at hl 5 rfl) ?_
  refine lv_iconst (v := 1) hx hb dL_law_1505 (by decide) ?_
  refine xe_iadd hx hb (nI_add (7 * i) 1) dL_law_1506 ?_
  refine va_sld hx hb hXs hbl (Nat.not_le.mpr hbl) hS (vp_in_nI (show 7 * i + 1 < L by omega) (by omega)) dL_law_1507 ?_
  rw [nI_clamp (show 7 * i + 1 < 2 ^ 31 by omega)]
  refine lv_aload_n hx hb dL_law_1508 rfl (lv_at hl 1 rfl) ?_
  refine lv_iload hx hb dL_law_1509 (lv_at hl 5 rfl) ?_
  refine lv_iconst (v := 2) hx hb dL_law_1511 (by decide) ?_
  refine xe_iadd hx hb (nI_add (7 * i) 2) dL_law_1512 ?_
  refine va_sld hx hb hXs hbl (Nat.not_le.mpr hbl) hS (vp_in_nI (show 7 * i + 2 < L by omega) (by omega)) dL_law_1513 ?_
  rw [nI_clamp (show 7 * i + 2 < 2 ^ 31 by omega)]
  refine lv_aload_n hx hb dL_law_1514 rfl (lv_at hl 1 rfl) ?_
  refine lv_iload hx hb dL_law_1515 (lv_at hl 5 rfl) ?_
  refine lv_iconst (v := 3) hx hb dL_law_1517 (by decide) ?_
  refine xe_iadd hx hb (nI_add (7 * i) 3) dL_law_1518 ?_
  refine va_sld hx hb hXs hbl (Nat.not_le.mpr hbl) hS (vp_in_nI (show 7 * i + 3 < L by omega) (by omega)) dL_law_1519 ?_
  rw [nI_clamp (show 7 * i + 3 < 2 ^ 31 by omega)]
  have hMA : ∀ q, aM h1 ou q → s.heap.size ≤ q := fun q h => Nat.le_trans h01 h.1
  refine xl_mint (va_runV (As := [.int (xs (7 * i + 1)), .int (xs (7 * i + 2)), .int (xs (7 * i + 3))]) (rest := []) ⟨hx, hb, hml, hown, hts⟩ (c_X7_unlock l D cA (aM h1 ou) M ad σ (xs (7 * i + 1)) (xs (7 * i + 2)) (xs (7 * i + 3)) nL hn.2.1 hi.2.1) (cwV 3 hts gL_law_X7_unlock rfl rfl rfl (by decide +kernel) ⟨(Nat.le_of_ble_eq_true rfl), (Nat.le_of_ble_eq_true rfl)⟩) (xPV hK hM.1 rfl hM) rfl rfl hl.1 rfl (lv_room (Nat.le_of_ble_eq_true rfl)) dL_law_1520 ⟨by show 40 + 10 * i + 3 + 0 ≤ 601024; omega, by show 70000 + 1200 * i + 18 + 0 ≤ 7293034; omega⟩) hS (fun q _ h => hMA q h) (fun q h => hMA q h) (fun y σ2 H locs hM2 ht hne heq z8 q8 hS => ?_)
  have hou9 : ou < H.size := Nat.lt_of_lt_of_le hou9 z8
  refine lv_istore (lv' := [(6, .int y), (5, .int (kUn (mS σ.2.1) nL (xs (7 * i + 1)) (xs (7 * i + 2)) (xs (7 * i + 3)))), (0, .ref b), (1, .ref o), (2, .ref M), (3, .ref ou), (4, .int (nI (7 * i)))]) hx hb dL_law_1523 hl (by decide) rfl (fun ls hl => ?_)
  refine lv_aload_n hx hb dL_law_1525 rfl (lv_at hl 4 rfl) ?_
  refine xr_call (va_runV (As := []) (rest := []) ⟨hx, hb, hml, hown, hts⟩ (c_X7_thrown l D cA (aM h1 ou) M ad σ2) (cwV 0 hts gL_law_X7_thrown rfl rfl rfl (by decide +kernel) ⟨(Nat.le_of_ble_eq_true rfl), (Nat.le_of_ble_eq_true rfl)⟩) (xPV hK hM2.1 rfl hM2) rfl rfl hl.1 rfl (lv_room (Nat.le_of_ble_eq_true rfl)) dL_law_1526 ⟨by show 40 + 10 * i + 3 + 0 + 0 ≤ 601024; omega, by show 70000 + 1200 * i + 18 + 0 + 0 ≤ 7293034; omega⟩) ?_
  refine xe_top (y := (kUn (mS σ.2.1) nL (xs (7 * i + 1)) (xs (7 * i + 2)) (xs (7 * i + 3)))) (show σ2.1 25 = (kUn (mS σ.2.1) nL (xs (7 * i + 1)) (xs (7 * i + 2)) (xs (7 * i + 3))) from ht) ?_
  refine lv_iload hx hb dL_law_1529 (lv_at hl 1 rfl) ?_
  refine lv_icmp_eq (tgt := 1536) hx hb dL_law_1531 (by decide) (fun _ => ?_) (fun q => absurd rfl q)
  rcases hJ with ⟨hk, hP, hO⟩ | ⟨hk, hP, o2, hO⟩
  · have hC2 := hP.same (fun q g1 g2 => q8 q g1 (fun h => g2.2.1 h))
    have hO := x_kept hO (q8 _ (q_lt hO) (fun h => absurd h.2 (Nat.lt_irrefl _)))
    obtain ⟨hy, hp⟩ := heq hk
    refine lv_iload hx hb dL_law_1536 (lv_at hl 1 rfl) ?_
    refine lv_if_ne (tgt := 1553) hx hb dL_law_1538 (by decide) (fun q => absurd hk q) (fun _ => ?_)
    refine lv_aload_n hx hb dL_law_1541 rfl (lv_at hl 5 rfl) ?_
    refine lv_iconst (v := 0) hx hb dL_law_1542 (by decide) ?_
    refine x_lald hx hb hK hO 0 rfl (by omega) (by decide) dL_law_1543 ?_
    refine lv_iload hx hb dL_law_1544 (lv_at hl 0 rfl) ?_
    refine lv_i2l hx hb dL_law_1546 rfl ?_
    refine xe_lcmp hx hb dL_law_1547 (fun v9 hv9 => ?_)
    refine lv_if_eq (tgt := 1553) hx hb dL_law_1548 (by decide) (fun _ => ?_) (fun q => absurd (hv9.mpr (show ((nI (lksF ((sa (mS σ.2.1) 11 (lkA (ix (xs (7 * i + 1))) (xs (7 * i + 2))) 0).2.1 11) (xs (7 * i + 3)))).toInt64) = (y).toInt64 from by subst hy; rfl)) q)
    refine lv_goto (tgt := 2489) hx hb dL_law_1553 (by decide) ?_
    refine lv_iinc (v := (nI (7 * (i + 1)))) (lv' := [(4, .int (nI (7 * (i + 1)))), (6, .int y), (5, .int (kUn (mS σ.2.1) nL (xs (7 * i + 1)) (xs (7 * i + 2)) (xs (7 * i + 3)))), (0, .ref b), (1, .ref o), (2, .ref M), (3, .ref ou)]) hx hb dL_law_2489 hl (k := 6) rfl (ni_inc7 i) (by decide) rfl (fun ls hl => ?_)
    refine lv_goto (tgt := 23) hx hb dL_law_2492 (by decide) ?_
    exact W.widen (k := 40 + 10 * (i + 1)) (n := 70000 + 1200 * (i + 1)) (by omega) (by omega) (ih _ _ _ (li_end hou9 ⟨_, hO⟩ hM2 hp hn hC2 (hi.lo (kLk_0 (kUn_0 hk)).1 (kLk_0 (kUn_0 hk)).2.1 (by decide)) (by omega)) hS (lv_sub hl [3, 4, 5, 6, 0] rfl))
  · have hC2 := hP.same (fun q g1 g2 => q8 q g1 (fun h => g2.2.1 h))
    have hO := x_kept hO (q8 _ (q_lt hO) (fun h => absurd h.2 (Nat.lt_irrefl _)))
    have hp := hne hk
    refine lv_iload hx hb dL_law_1536 (lv_at hl 1 rfl) ?_
    refine lv_if_ne (tgt := 1553) hx hb dL_law_1538 (by decide) (fun _ => ?_) (fun q => absurd q hk)
    refine lv_goto (tgt := 2489) hx hb dL_law_1553 (by decide) ?_
    refine lv_iinc (v := (nI (7 * (i + 1)))) (lv' := [(4, .int (nI (7 * (i + 1)))), (6, .int y), (5, .int (kUn (mS σ.2.1) nL (xs (7 * i + 1)) (xs (7 * i + 2)) (xs (7 * i + 3)))), (0, .ref b), (1, .ref o), (2, .ref M), (3, .ref ou)]) hx hb dL_law_2489 hl (k := 6) rfl (ni_inc7 i) (by decide) rfl (fun ls hl => ?_)
    refine lv_goto (tgt := 23) hx hb dL_law_2492 (by decide) ?_
    exact W.widen (k := 40 + 10 * (i + 1)) (n := 70000 + 1200 * (i + 1)) (by omega) (by omega) (ih _ _ _ (li_end hou9 ⟨_, hO⟩ hM2 hp hn hC2 hi (by omega)) hS (lv_sub hl [3, 4, 5, 6, 0] rfl))
set_option maxHeartbeats 4000000 in
set_option maxRecDepth 100000 in
theorem lw_c19 {p : Program} {l : Launch} {e : Env} {s : State} {m : MethodId} {below : List Frame} {meth : Method} {c : Code} {b L : Nat} {xs : Nat → Int32} {Q : State → Prop} (hx : p.tables.exec = Jvm.exec) (hb : c.code = cL_law) (hml : c.maxLocals = 8) (hown : s.vm.findClass RL = some m.cls) (hts : ∀ w ∈ wsL_law, w.before #[Value.ref b] s = true) {D : va_G} {cA : Nat → ClassId} (hK : xK D cA s) {z o M h1 ou : Nat} {ad : Nat → Nat} (hX : lK (fun q => s.heap.size ≤ q) z s) (hXs : va_X b L xs s s.heap) (hbl : b < s.heap.size) (hL : L ≤ 3584) (hst : l.stackTraces = false) (h01 : s.heap.size ≤ h1) (h1u : h1 ≤ ou) {i : Nat} (hi9 : 7 * i + 7 ≤ L) {H : Heap} {locs : List Loc} {ls : Array Slot} (hI : LI D cA s.heap.size h1 ou z o M ad i H) (hS : va_S (fun q => s.heap.size ≤ q) s.heap H locs) (hl : lv_has ls 8 [(0, .ref b), (1, .ref o), (2, .ref M), (3, .ref ou), (4, .int (nI (7 * i)))]) (ih : ∀ (H2 : Heap) (locs2 : List Loc) (ls2 : Array Slot), LI D cA s.heap.size h1 ou z o M ad (i + 1) H2 → va_S (fun q => s.heap.size ≤ q) s.heap H2 locs2 → lv_has ls2 8 [(0, .ref b), (1, .ref o), (2, .ref M), (3, .ref ou), (4, .int (nI (7 * (i + 1))))] → W p l e room_1 s m #[Value.ref b] below meth c H2 locs2 (40 + 10 * (i + 1)) (70000 + 1200 * (i + 1)) Q (F0 m 23 ls2 [])) : W p l e room_1 s m #[Value.ref b] below meth c H locs (40 + 10 * i) (70000 + 1200 * i) Q (F0 m 1556 ls []) := by
  obtain ⟨hou9, ⟨o1, hO⟩, σ, nC, nL, nV, hM, hn, hC, hi, hv⟩ := hI
  have hi5 : i ≤ 511 := by omega
  refine lv_aload_n hx hb dL_law_1556 rfl (lv_at hl 1 rfl) ?_
  refine lv_aload_n hx hb dL_law_1557 rfl (lv_at hl 0 rfl) ?_
  refine lv_iload hx hb dL_law_1558 (lv_at hl 4 rfl) ?_
  refine lv_iconst (v := 1) hx hb dL_law_1560 (by decide) ?_
  refine xe_iadd hx hb (nI_add (7 * i) 1) dL_law_1561 ?_
  refine va_sld hx hb hXs hbl (Nat.not_le.mpr hbl) hS (vp_in_nI (show 7 * i + 1 < L by omega) (by omega)) dL_law_1562 ?_
  rw [nI_clamp (show 7 * i + 1 < 2 ^ 31 by omega)]
  refine lv_aload_n hx hb dL_law_1563 rfl (lv_at hl 0 rfl) ?_
  refine lv_iload hx hb dL_law_1564 (lv_at hl 4 rfl) ?_
  refine lv_iconst (v := 2) hx hb dL_law_1566 (by decide) ?_
  refine xe_iadd hx hb (nI_add (7 * i) 2) dL_law_1567 ?_
  refine va_sld hx hb hXs hbl (Nat.not_le.mpr hbl) hS (vp_in_nI (show 7 * i + 2 < L by omega) (by omega)) dL_law_1568 ?_
  rw [nI_clamp (show 7 * i + 2 < 2 ^ 31 by omega)]
  refine lv_aload_n hx hb dL_law_1569 rfl (lv_at hl 0 rfl) ?_
  refine lv_iload hx hb dL_law_1570 (lv_at hl 4 rfl) ?_
  refine lv_iconst (v := 3) hx hb dL_law_1572 (by decide) ?_
  refine xe_iadd hx hb (nI_add (7 * i) 3) dL_law_1573 ?_
  refine va_sld hx hb hXs hbl (Nat.not_le.mpr hbl) hS (vp_in_nI (show 7 * i + 3 < L by omega) (by omega)) dL_law_1574 ?_
  rw [nI_clamp (show 7 * i + 3 < 2 ^ 31 by omega)]
  refine lv_aload_n hx hb dL_law_1575 rfl (lv_at hl 3 rfl) ?_
  have hou8 : ¬ aC s.heap.size h1 ou ou := fun h => h.2.2 rfl
  have hAn : ∀ q, H.size ≤ q → aC s.heap.size h1 ou q := fun q h => ⟨by have := hS.1; omega, by omega, by omega⟩
  have hBA : ∀ q, (aC s.heap.size h1 ou q ∨ q = ou) → s.heap.size ≤ q := fun q h => h.elim (fun h => h.1) (fun e => by omega)
  refine xl_lcall (vx_runSW (As := [.ref o, .int (xs (7 * i + 1)), .int (xs (7 * i + 2)), .int (xs (7 * i + 3)), .ref ou]) (rest := []) ⟨hx, hb, hml, hown, hts⟩ (c_L_isLocked l hst D cA (aC s.heap.size h1 ou) z o ou σ.2.1 nC nL nV hi H (xs (7 * i + 1)) (xs (7 * i + 2)) (xs (7 * i + 3)) hou8 hAn) (vx_cwSW 5 hts gL_law_L_isLocked rfl rfl rfl (by decide +kernel) ⟨(Nat.le_of_ble_eq_true rfl), (Nat.le_of_ble_eq_true rfl)⟩) (xPXS hK lK.blind (fun U hU hW => hX.at hS hBA hU hW) ⟨rfl, hC, _, hO⟩) rfl rfl hl.1 rfl (lv_room (Nat.le_of_ble_eq_true rfl)) dL_law_1576 ⟨by show 40 + 10 * i + 3 ≤ 601024; omega, by show 70000 + 1200 * i + 18 ≤ 7293034; omega⟩) hS (fun q _ h => hBA q h) (fun q h => hBA q h) (fun H locs hJ z9 q9 hS => ?_)
  have hM := hM.keptA (fun q g1 g2 => q9 q g1 (fun h => h.elim (fun h => h.2.1 g2) (fun e => by have := g2.2; omega)))
  have hou9 : ou < H.size := Nat.lt_of_lt_of_le hou9 z9
  refine lv_istore (lv' := [(5, .int (kIL nL (xs (7 * i + 1)) (xs (7 * i + 2)) (xs (7 * i + 3)))), (0, .ref b), (1, .ref o), (2, .ref M), (3, .ref ou), (4, .int (nI (7 * i)))]) hx hb dL_law_1579 hl (by decide) rfl (fun ls hl => ?_)
  refine lv_aload_n hx hb dL_law_1581 rfl (lv_at hl 3 rfl) ?_
  refine lv_aload_n hx hb dL_law_1582 rfl (lv_at hl 1 rfl) ?_
  refine lv_iload hx hb dL_law_1583 (lv_at hl 5 rfl) ?_
  refine lv_iconst (v := 1) hx hb dL_law_1585 (by decide) ?_
  refine xe_iadd hx hb (nI_add (7 * i) 1) dL_law_1586 ?_
  refine va_sld hx hb hXs hbl (Nat.not_le.mpr hbl) hS (vp_in_nI (show 7 * i + 1 < L by omega) (by omega)) dL_law_1587 ?_
  rw [nI_clamp (show 7 * i + 1 < 2 ^ 31 by omega)]
  refine lv_aload_n hx hb dL_law_1588 rfl (lv_at hl 1 rfl) ?_
  refine lv_iload hx hb dL_law_1589 (lv_at hl 5 rfl) ?_
  refine lv_iconst (v := 2) hx hb dL_law_1591 (by decide) ?_
  refine xe_iadd hx hb (nI_add (7 * i) 2) dL_law_1592 ?_
  refine va_sld hx hb hXs hbl (Nat.not_le.mpr hbl) hS (vp_in_nI (show 7 * i + 2 < L by omega) (by omega)) dL_law_1593 ?_
  rw [nI_clamp (show 7 * i + 2 < 2 ^ 31 by omega)]
  refine lv_aload_n hx hb dL_law_1594 rfl (lv_at hl 1 rfl) ?_
  refine lv_iload hx hb dL_law_1595 (lv_at hl 5 rfl) ?_
  refine lv_iconst (v := 3) hx hb dL_law_1597 (by decide) ?_
  refine xe_iadd hx hb (nI_add (7 * i) 3) dL_law_1598 ?_
  refine va_sld hx hb hXs hbl (Nat.not_le.mpr hbl) hS (vp_in_nI (show 7 * i + 3 < L by omega) (by omega)) dL_law_1599 ?_
  rw [nI_clamp (show 7 * i + 3 < 2 ^ 31 by omega)]
  have hMA : ∀ q, aM h1 ou q → s.heap.size ≤ q := fun q h => Nat.le_trans h01 h.1
  refine xl_mint (va_runV (As := [.int (xs (7 * i + 1)), .int (xs (7 * i + 2)), .int (xs (7 * i + 3))]) (rest := []) ⟨hx, hb, hml, hown, hts⟩ (c_X7_isLocked l D cA (aM h1 ou) M ad σ (xs (7 * i + 1)) (xs (7 * i + 2)) (xs (7 * i + 3)) nL hn.2.1 hi.2.1) (cwV 3 hts gL_law_X7_isLocked rfl rfl rfl (by decide +kernel) ⟨(Nat.le_of_ble_eq_true rfl), (Nat.le_of_ble_eq_true rfl)⟩) (xPV hK hM.1 rfl hM) rfl rfl hl.1 rfl (lv_room (Nat.le_of_ble_eq_true rfl)) dL_law_1600 ⟨by show 40 + 10 * i + 3 + 0 ≤ 601024; omega, by show 70000 + 1200 * i + 18 + 0 ≤ 7293034; omega⟩) hS (fun q _ h => hMA q h) (fun q h => hMA q h) (fun y σ2 H locs hM2 ht hne heq z8 q8 hS => ?_)
  have hou9 : ou < H.size := Nat.lt_of_lt_of_le hou9 z8
  refine lv_istore (lv' := [(6, .int y), (5, .int (kIL nL (xs (7 * i + 1)) (xs (7 * i + 2)) (xs (7 * i + 3)))), (0, .ref b), (1, .ref o), (2, .ref M), (3, .ref ou), (4, .int (nI (7 * i)))]) hx hb dL_law_1603 hl (by decide) rfl (fun ls hl => ?_)
  refine lv_aload_n hx hb dL_law_1605 rfl (lv_at hl 4 rfl) ?_
  refine xr_call (va_runV (As := []) (rest := []) ⟨hx, hb, hml, hown, hts⟩ (c_X7_thrown l D cA (aM h1 ou) M ad σ2) (cwV 0 hts gL_law_X7_thrown rfl rfl rfl (by decide +kernel) ⟨(Nat.le_of_ble_eq_true rfl), (Nat.le_of_ble_eq_true rfl)⟩) (xPV hK hM2.1 rfl hM2) rfl rfl hl.1 rfl (lv_room (Nat.le_of_ble_eq_true rfl)) dL_law_1606 ⟨by show 40 + 10 * i + 3 + 0 + 0 ≤ 601024; omega, by show 70000 + 1200 * i + 18 + 0 + 0 ≤ 7293034; omega⟩) ?_
  refine xe_top (y := (kIL nL (xs (7 * i + 1)) (xs (7 * i + 2)) (xs (7 * i + 3)))) (show σ2.1 25 = (kIL nL (xs (7 * i + 1)) (xs (7 * i + 2)) (xs (7 * i + 3))) from ht) ?_
  refine lv_iload hx hb dL_law_1609 (lv_at hl 1 rfl) ?_
  refine lv_icmp_eq (tgt := 1616) hx hb dL_law_1611 (by decide) (fun _ => ?_) (fun q => absurd rfl q)
  rcases hJ with ⟨hk, hP, hO⟩ | ⟨hk, hP, o2, hO⟩
  · have hC2 := hP.same (fun q g1 g2 => q8 q g1 (fun h => g2.2.1 h))
    have hO := x_kept hO (q8 _ (q_lt hO) (fun h => absurd h.2 (Nat.lt_irrefl _)))
    obtain ⟨hy, hp⟩ := heq hk
    refine lv_iload hx hb dL_law_1616 (lv_at hl 1 rfl) ?_
    refine lv_if_ne (tgt := 1640) hx hb dL_law_1618 (by decide) (fun q => absurd hk q) (fun _ => ?_)
    refine lv_aload_n hx hb dL_law_1621 rfl (lv_at hl 5 rfl) ?_
    refine lv_iconst (v := 0) hx hb dL_law_1622 (by decide) ?_
    refine x_lald hx hb hK hO 0 rfl (by omega) (by decide) dL_law_1623 ?_
    refine lv_iload hx hb dL_law_1624 (lv_at hl 0 rfl) ?_
    refine xe_top (y := bI (lckF (σ.2.1 11) (cl (xs (7 * i + 1)) (xs (7 * i + 2))) (xs (7 * i + 3)))) hy ?_
    refine xb_eq (tgt := 1633) hx hb dL_law_1626 (by decide) (fun hbc => ?_) (fun hbc => ?_)
    · refine lv_lconst (v := 0) hx hb dL_law_1633 (by decide) ?_
      refine xe_lcmp hx hb dL_law_1634 (fun v9 hv9 => ?_)
      refine lv_if_eq (tgt := 1640) hx hb dL_law_1635 (by decide) (fun _ => ?_) (fun q => absurd (hv9.mpr (show bL (lckF (σ.2.1 11) (cl (xs (7 * i + 1)) (xs (7 * i + 2))) (xs (7 * i + 3))) = 0 from by unfold bL; rw [hbc]; rfl)) q)
      refine lv_goto (tgt := 2489) hx hb dL_law_1640 (by decide) ?_
      refine lv_iinc (v := (nI (7 * (i + 1)))) (lv' := [(4, .int (nI (7 * (i + 1)))), (6, .int y), (5, .int (kIL nL (xs (7 * i + 1)) (xs (7 * i + 2)) (xs (7 * i + 3)))), (0, .ref b), (1, .ref o), (2, .ref M), (3, .ref ou)]) hx hb dL_law_2489 hl (k := 6) rfl (ni_inc7 i) (by decide) rfl (fun ls hl => ?_)
      refine lv_goto (tgt := 23) hx hb dL_law_2492 (by decide) ?_
      exact W.widen (k := 40 + 10 * (i + 1)) (n := 70000 + 1200 * (i + 1)) (by omega) (by omega) (ih _ _ _ (li_end hou9 ⟨_, hO⟩ hM2 hp hn hC2 hi (by omega)) hS (lv_sub hl [3, 4, 5, 6, 0] rfl))
    · refine lv_lconst (v := 1) hx hb dL_law_1629 (by decide) ?_
      refine lv_goto (tgt := 1634) hx hb dL_law_1630 (by decide) ?_
      refine xe_lcmp hx hb dL_law_1634 (fun v9 hv9 => ?_)
      refine lv_if_eq (tgt := 1640) hx hb dL_law_1635 (by decide) (fun _ => ?_) (fun q => absurd (hv9.mpr (show bL (lckF (σ.2.1 11) (cl (xs (7 * i + 1)) (xs (7 * i + 2))) (xs (7 * i + 3))) = 1 from by unfold bL; rw [hbc]; rfl)) q)
      refine lv_goto (tgt := 2489) hx hb dL_law_1640 (by decide) ?_
      refine lv_iinc (v := (nI (7 * (i + 1)))) (lv' := [(4, .int (nI (7 * (i + 1)))), (6, .int y), (5, .int (kIL nL (xs (7 * i + 1)) (xs (7 * i + 2)) (xs (7 * i + 3)))), (0, .ref b), (1, .ref o), (2, .ref M), (3, .ref ou)]) hx hb dL_law_2489 hl (k := 6) rfl (ni_inc7 i) (by decide) rfl (fun ls hl => ?_)
      refine lv_goto (tgt := 23) hx hb dL_law_2492 (by decide) ?_
      exact W.widen (k := 40 + 10 * (i + 1)) (n := 70000 + 1200 * (i + 1)) (by omega) (by omega) (ih _ _ _ (li_end hou9 ⟨_, hO⟩ hM2 hp hn hC2 hi (by omega)) hS (lv_sub hl [3, 4, 5, 6, 0] rfl))
  · have hC2 := hP.same (fun q g1 g2 => q8 q g1 (fun h => g2.2.1 h))
    have hO := x_kept hO (q8 _ (q_lt hO) (fun h => absurd h.2 (Nat.lt_irrefl _)))
    have hp := hne hk
    refine lv_iload hx hb dL_law_1616 (lv_at hl 1 rfl) ?_
    refine lv_if_ne (tgt := 1640) hx hb dL_law_1618 (by decide) (fun _ => ?_) (fun q => absurd q hk)
    refine lv_goto (tgt := 2489) hx hb dL_law_1640 (by decide) ?_
    refine lv_iinc (v := (nI (7 * (i + 1)))) (lv' := [(4, .int (nI (7 * (i + 1)))), (6, .int y), (5, .int (kIL nL (xs (7 * i + 1)) (xs (7 * i + 2)) (xs (7 * i + 3)))), (0, .ref b), (1, .ref o), (2, .ref M), (3, .ref ou)]) hx hb dL_law_2489 hl (k := 6) rfl (ni_inc7 i) (by decide) rfl (fun ls hl => ?_)
    refine lv_goto (tgt := 23) hx hb dL_law_2492 (by decide) ?_
    exact W.widen (k := 40 + 10 * (i + 1)) (n := 70000 + 1200 * (i + 1)) (by omega) (by omega) (ih _ _ _ (li_end hou9 ⟨_, hO⟩ hM2 hp hn hC2 hi (by omega)) hS (lv_sub hl [3, 4, 5, 6, 0] rfl))
set_option maxHeartbeats 4000000 in
set_option maxRecDepth 100000 in
theorem lw_c20 {p : Program} {l : Launch} {e : Env} {s : State} {m : MethodId} {below : List Frame} {meth : Method} {c : Code} {b L : Nat} {xs : Nat → Int32} {Q : State → Prop} (hx : p.tables.exec = Jvm.exec) (hb : c.code = cL_law) (hml : c.maxLocals = 8) (hown : s.vm.findClass RL = some m.cls) (hts : ∀ w ∈ wsL_law, w.before #[Value.ref b] s = true) {D : va_G} {cA : Nat → ClassId} (hK : xK D cA s) {z o M h1 ou : Nat} {ad : Nat → Nat} (hX : lK (fun q => s.heap.size ≤ q) z s) (hXs : va_X b L xs s s.heap) (hbl : b < s.heap.size) (hL : L ≤ 3584) (hst : l.stackTraces = false) (h01 : s.heap.size ≤ h1) (h1u : h1 ≤ ou) {i : Nat} (hi9 : 7 * i + 7 ≤ L) {H : Heap} {locs : List Loc} {ls : Array Slot} (hI : LI D cA s.heap.size h1 ou z o M ad i H) (hS : va_S (fun q => s.heap.size ≤ q) s.heap H locs) (hl : lv_has ls 8 [(0, .ref b), (1, .ref o), (2, .ref M), (3, .ref ou), (4, .int (nI (7 * i)))]) (ih : ∀ (H2 : Heap) (locs2 : List Loc) (ls2 : Array Slot), LI D cA s.heap.size h1 ou z o M ad (i + 1) H2 → va_S (fun q => s.heap.size ≤ q) s.heap H2 locs2 → lv_has ls2 8 [(0, .ref b), (1, .ref o), (2, .ref M), (3, .ref ou), (4, .int (nI (7 * (i + 1))))] → W p l e room_1 s m #[Value.ref b] below meth c H2 locs2 (40 + 10 * (i + 1)) (70000 + 1200 * (i + 1)) Q (F0 m 23 ls2 [])) : W p l e room_1 s m #[Value.ref b] below meth c H locs (40 + 10 * i) (70000 + 1200 * i) Q (F0 m 1643 ls []) := by
  obtain ⟨hou9, ⟨o1, hO⟩, σ, nC, nL, nV, hM, hn, hC, hi, hv⟩ := hI
  have hi5 : i ≤ 511 := by omega
  refine lv_aload_n hx hb dL_law_1643 rfl (lv_at hl 1 rfl) ?_
  have hC0 := hC
  obtain ⟨lab, nm, rf, hV9, hl9, hIQ, hz9, ho9⟩ := hC0
  have ct := c_X6_version l hst D cA lab nm rf σ.2.1 nC nL nV hi (aC s.heap.size h1 ou) hl9 H
  have hT9 := hV9.1
  rw [ho9] at hT9
  rw [ho9, hz9] at ct
  refine xl_call (vx_runV (As := []) (rest := []) ⟨hx, hb, hml, hown, hts⟩ ct (cwV 0 hts gL_law_X6_version rfl rfl rfl (by decide +kernel) ⟨(Nat.le_of_ble_eq_true rfl), (Nat.le_of_ble_eq_true rfl)⟩) (xPXV hK pK.blind (fun U hU hW => hX.1.at hS (fun q h => h.1) hU hW) hT9 rfl ⟨rfl, hV9, hIQ⟩) rfl rfl hl.1 rfl (lv_room (Nat.le_of_ble_eq_true rfl)) dL_law_1644 ⟨by show 40 + 10 * i + 3 ≤ 601024; omega, by show 70000 + 1200 * i + 18 ≤ 7293034; omega⟩) hS (fun q _ h => h.1) (fun q h => h.1) (fun hk0 => absurd rfl hk0) (fun _ H locs hP z9 q9 hS => ?_)
  have hM := hM.keptA (fun q g1 g2 => q9 q g1 (fun h => h.2.1 g2))
  have hO := x_kept hO (q9 _ (q_lt hO) (fun h => h.2.2 rfl))
  have hou9 : ou < H.size := Nat.lt_of_lt_of_le hou9 z9
  refine lv_aload_n hx hb dL_law_1647 rfl (lv_at hl 2 rfl) ?_
  have hMA : ∀ q, aM h1 ou q → s.heap.size ≤ q := fun q h => Nat.le_trans h01 h.1
  refine xl_mint (va_runV (As := []) (rest := [.int (nI nV)]) ⟨hx, hb, hml, hown, hts⟩ (c_X7_version l D cA (aM h1 ou) M ad σ nV hn.2.2 (by omega)) (cwV 0 hts gL_law_X7_version rfl rfl rfl (by decide +kernel) ⟨(Nat.le_of_ble_eq_true rfl), (Nat.le_of_ble_eq_true rfl)⟩) (xPV hK hM.1 rfl hM) rfl rfl hl.1 rfl (lv_room (Nat.le_of_ble_eq_true rfl)) dL_law_1648 ⟨by show 40 + 10 * i + 3 + 0 ≤ 601024; omega, by show 70000 + 1200 * i + 18 + 0 ≤ 7293034; omega⟩) hS (fun q _ h => hMA q h) (fun q h => hMA q h) (fun y σ2 H locs hM2 ht hne heq z8 q8 hS => ?_)
  have hou9 : ou < H.size := Nat.lt_of_lt_of_le hou9 z8
  refine lv_icmp_eq (tgt := 2489) hx hb dL_law_1651 (by decide) (fun _ => ?_) (fun q => absurd (heq rfl).1.symm q)
  have hC2 := hP.same (fun q g1 g2 => q8 q g1 (fun h => g2.2.1 h))
  have hO := x_kept hO (q8 _ (q_lt hO) (fun h => absurd h.2 (Nat.lt_irrefl _)))
  have hp := (heq rfl).2
  refine lv_iinc (v := (nI (7 * (i + 1)))) (lv' := [(4, .int (nI (7 * (i + 1)))), (0, .ref b), (1, .ref o), (2, .ref M), (3, .ref ou)]) hx hb dL_law_2489 hl (k := 4) rfl (ni_inc7 i) (by decide) rfl (fun ls hl => ?_)
  refine lv_goto (tgt := 23) hx hb dL_law_2492 (by decide) ?_
  exact W.widen (k := 40 + 10 * (i + 1)) (n := 70000 + 1200 * (i + 1)) (by omega) (by omega) (ih _ _ _ (li_end hou9 ⟨_, hO⟩ hM2 hp hn hC2 hi (by omega)) hS (lv_sub hl [1, 2, 3, 4, 0] rfl))
set_option maxHeartbeats 4000000 in
set_option maxRecDepth 100000 in
theorem lw_c21 {p : Program} {l : Launch} {e : Env} {s : State} {m : MethodId} {below : List Frame} {meth : Method} {c : Code} {b L : Nat} {xs : Nat → Int32} {Q : State → Prop} (hx : p.tables.exec = Jvm.exec) (hb : c.code = cL_law) (hml : c.maxLocals = 8) (hown : s.vm.findClass RL = some m.cls) (hts : ∀ w ∈ wsL_law, w.before #[Value.ref b] s = true) {D : va_G} {cA : Nat → ClassId} (hK : xK D cA s) {z o M h1 ou : Nat} {ad : Nat → Nat} (hX : lK (fun q => s.heap.size ≤ q) z s) (hXs : va_X b L xs s s.heap) (hbl : b < s.heap.size) (hL : L ≤ 3584) (hst : l.stackTraces = false) (h01 : s.heap.size ≤ h1) (h1u : h1 ≤ ou) {i : Nat} (hi9 : 7 * i + 7 ≤ L) {H : Heap} {locs : List Loc} {ls : Array Slot} (hI : LI D cA s.heap.size h1 ou z o M ad i H) (hS : va_S (fun q => s.heap.size ≤ q) s.heap H locs) (hl : lv_has ls 8 [(0, .ref b), (1, .ref o), (2, .ref M), (3, .ref ou), (4, .int (nI (7 * i)))]) (ih : ∀ (H2 : Heap) (locs2 : List Loc) (ls2 : Array Slot), LI D cA s.heap.size h1 ou z o M ad (i + 1) H2 → va_S (fun q => s.heap.size ≤ q) s.heap H2 locs2 → lv_has ls2 8 [(0, .ref b), (1, .ref o), (2, .ref M), (3, .ref ou), (4, .int (nI (7 * (i + 1))))] → W p l e room_1 s m #[Value.ref b] below meth c H2 locs2 (40 + 10 * (i + 1)) (70000 + 1200 * (i + 1)) Q (F0 m 23 ls2 [])) : W p l e room_1 s m #[Value.ref b] below meth c H locs (40 + 10 * i) (70000 + 1200 * i) Q (F0 m 1656 ls []) := by
  obtain ⟨hou9, ⟨o1, hO⟩, σ, nC, nL, nV, hM, hn, hC, hi, hv⟩ := hI
  have hi5 : i ≤ 511 := by omega
  refine lv_aload_n hx hb dL_law_1656 rfl (lv_at hl 1 rfl) ?_
  refine lv_aload_n hx hb dL_law_1657 rfl (lv_at hl 0 rfl) ?_
  refine lv_iload hx hb dL_law_1658 (lv_at hl 4 rfl) ?_
  refine lv_iconst (v := 1) hx hb dL_law_1660 (by decide) ?_
  refine xe_iadd hx hb (nI_add (7 * i) 1) dL_law_1661 ?_
  refine va_sld hx hb hXs hbl (Nat.not_le.mpr hbl) hS (vp_in_nI (show 7 * i + 1 < L by omega) (by omega)) dL_law_1662 ?_
  rw [nI_clamp (show 7 * i + 1 < 2 ^ 31 by omega)]
  refine lv_aload_n hx hb dL_law_1663 rfl (lv_at hl 0 rfl) ?_
  refine lv_iload hx hb dL_law_1664 (lv_at hl 4 rfl) ?_
  refine lv_iconst (v := 2) hx hb dL_law_1666 (by decide) ?_
  refine xe_iadd hx hb (nI_add (7 * i) 2) dL_law_1667 ?_
  refine va_sld hx hb hXs hbl (Nat.not_le.mpr hbl) hS (vp_in_nI (show 7 * i + 2 < L by omega) (by omega)) dL_law_1668 ?_
  rw [nI_clamp (show 7 * i + 2 < 2 ^ 31 by omega)]
  refine lv_aload_n hx hb dL_law_1669 rfl (lv_at hl 3 rfl) ?_
  have hou8 : ¬ aC s.heap.size h1 ou ou := fun h => h.2.2 rfl
  have hAn : ∀ q, H.size ≤ q → aC s.heap.size h1 ou q := fun q h => ⟨by have := hS.1; omega, by omega, by omega⟩
  have hBA : ∀ q, (aC s.heap.size h1 ou q ∨ q = ou) → s.heap.size ≤ q := fun q h => h.elim (fun h => h.1) (fun e => by omega)
  refine xl_lcall (vx_runSW (As := [.ref o, .int (xs (7 * i + 1)), .int (xs (7 * i + 2)), .ref ou]) (rest := []) ⟨hx, hb, hml, hown, hts⟩ (c_L_changedAt l hst D cA (aC s.heap.size h1 ou) z o ou σ.2.1 nC nL nV hi H (xs (7 * i + 1)) (xs (7 * i + 2)) hou8 hAn) (vx_cwSW 4 hts gL_law_L_changedAt rfl rfl rfl (by decide +kernel) ⟨(Nat.le_of_ble_eq_true rfl), (Nat.le_of_ble_eq_true rfl)⟩) (xPXS hK lK.blind (fun U hU hW => hX.at hS hBA hU hW) ⟨rfl, hC, _, hO⟩) rfl rfl hl.1 rfl (lv_room (Nat.le_of_ble_eq_true rfl)) dL_law_1670 ⟨by show 40 + 10 * i + 3 ≤ 601024; omega, by show 70000 + 1200 * i + 18 ≤ 7293034; omega⟩) hS (fun q _ h => hBA q h) (fun q h => hBA q h) (fun H locs hJ z9 q9 hS => ?_)
  have hM := hM.keptA (fun q g1 g2 => q9 q g1 (fun h => h.elim (fun h => h.2.1 g2) (fun e => by have := g2.2; omega)))
  have hou9 : ou < H.size := Nat.lt_of_lt_of_le hou9 z9
  refine lv_istore (lv' := [(5, .int (kCe nL (xs (7 * i + 1)) (xs (7 * i + 2)))), (0, .ref b), (1, .ref o), (2, .ref M), (3, .ref ou), (4, .int (nI (7 * i)))]) hx hb dL_law_1673 hl (by decide) rfl (fun ls hl => ?_)
  refine lv_aload_n hx hb dL_law_1675 rfl (lv_at hl 3 rfl) ?_
  refine lv_aload_n hx hb dL_law_1676 rfl (lv_at hl 1 rfl) ?_
  refine lv_iload hx hb dL_law_1677 (lv_at hl 5 rfl) ?_
  refine lv_iconst (v := 1) hx hb dL_law_1679 (by decide) ?_
  refine xe_iadd hx hb (nI_add (7 * i) 1) dL_law_1680 ?_
  refine va_sld hx hb hXs hbl (Nat.not_le.mpr hbl) hS (vp_in_nI (show 7 * i + 1 < L by omega) (by omega)) dL_law_1681 ?_
  rw [nI_clamp (show 7 * i + 1 < 2 ^ 31 by omega)]
  refine lv_aload_n hx hb dL_law_1682 rfl (lv_at hl 1 rfl) ?_
  refine lv_iload hx hb dL_law_1683 (lv_at hl 5 rfl) ?_
  refine lv_iconst (v := 2) hx hb dL_law_1685 (by decide) ?_
  refine xe_iadd hx hb (nI_add (7 * i) 2) dL_law_1686 ?_
  refine va_sld hx hb hXs hbl (Nat.not_le.mpr hbl) hS (vp_in_nI (show 7 * i + 2 < L by omega) (by omega)) dL_law_1687 ?_
  rw [nI_clamp (show 7 * i + 2 < 2 ^ 31 by omega)]
  have hMA : ∀ q, aM h1 ou q → s.heap.size ≤ q := fun q h => Nat.le_trans h01 h.1
  refine xl_mint (va_runV (As := [.int (xs (7 * i + 1)), .int (xs (7 * i + 2))]) (rest := []) ⟨hx, hb, hml, hown, hts⟩ (c_X7_changedAt l D cA (aM h1 ou) M ad σ (xs (7 * i + 1)) (xs (7 * i + 2)) nL hn.2.1 hi.2.1) (cwV 2 hts gL_law_X7_changedAt rfl rfl rfl (by decide +kernel) ⟨(Nat.le_of_ble_eq_true rfl), (Nat.le_of_ble_eq_true rfl)⟩) (xPV hK hM.1 rfl hM) rfl rfl hl.1 rfl (lv_room (Nat.le_of_ble_eq_true rfl)) dL_law_1688 ⟨by show 40 + 10 * i + 3 + 0 ≤ 601024; omega, by show 70000 + 1200 * i + 18 + 0 ≤ 7293034; omega⟩) hS (fun q _ h => hMA q h) (fun q h => hMA q h) (fun y σ2 H locs hM2 ht hne heq z8 q8 hS => ?_)
  have hou9 : ou < H.size := Nat.lt_of_lt_of_le hou9 z8
  refine lv_istore (lv' := [(6, .int y), (5, .int (kCe nL (xs (7 * i + 1)) (xs (7 * i + 2)))), (0, .ref b), (1, .ref o), (2, .ref M), (3, .ref ou), (4, .int (nI (7 * i)))]) hx hb dL_law_1691 hl (by decide) rfl (fun ls hl => ?_)
  refine lv_aload_n hx hb dL_law_1693 rfl (lv_at hl 4 rfl) ?_
  refine xr_call (va_runV (As := []) (rest := []) ⟨hx, hb, hml, hown, hts⟩ (c_X7_thrown l D cA (aM h1 ou) M ad σ2) (cwV 0 hts gL_law_X7_thrown rfl rfl rfl (by decide +kernel) ⟨(Nat.le_of_ble_eq_true rfl), (Nat.le_of_ble_eq_true rfl)⟩) (xPV hK hM2.1 rfl hM2) rfl rfl hl.1 rfl (lv_room (Nat.le_of_ble_eq_true rfl)) dL_law_1694 ⟨by show 40 + 10 * i + 3 + 0 + 0 ≤ 601024; omega, by show 70000 + 1200 * i + 18 + 0 + 0 ≤ 7293034; omega⟩) ?_
  refine xe_top (y := (kCe nL (xs (7 * i + 1)) (xs (7 * i + 2)))) (show σ2.1 25 = (kCe nL (xs (7 * i + 1)) (xs (7 * i + 2))) from ht) ?_
  refine lv_iload hx hb dL_law_1697 (lv_at hl 1 rfl) ?_
  refine lv_icmp_eq (tgt := 1704) hx hb dL_law_1699 (by decide) (fun _ => ?_) (fun q => absurd rfl q)
  rcases hJ with ⟨hk, hP, hO⟩ | ⟨hk, hP, o2, hO⟩
  · have hC2 := hP.same (fun q g1 g2 => q8 q g1 (fun h => g2.2.1 h))
    have hO := x_kept hO (q8 _ (q_lt hO) (fun h => absurd h.2 (Nat.lt_irrefl _)))
    obtain ⟨hy, hp⟩ := heq hk
    refine lv_iload hx hb dL_law_1704 (lv_at hl 1 rfl) ?_
    refine lv_if_ne (tgt := 1721) hx hb dL_law_1706 (by decide) (fun q => absurd hk q) (fun _ => ?_)
    refine lv_aload_n hx hb dL_law_1709 rfl (lv_at hl 5 rfl) ?_
    refine lv_iconst (v := 0) hx hb dL_law_1710 (by decide) ?_
    refine x_lald hx hb hK hO 0 rfl (by omega) (by decide) dL_law_1711 ?_
    refine lv_iload hx hb dL_law_1712 (lv_at hl 0 rfl) ?_
    refine lv_i2l hx hb dL_law_1714 rfl ?_
    refine xe_lcmp hx hb dL_law_1715 (fun v9 hv9 => ?_)
    refine lv_if_eq (tgt := 1721) hx hb dL_law_1716 (by decide) (fun _ => ?_) (fun q => absurd (hv9.mpr (show ((σ.2.1 8 (cl (xs (7 * i + 1)) (xs (7 * i + 2)))).toInt64) = (y).toInt64 from by subst hy; rfl)) q)
    refine lv_goto (tgt := 2489) hx hb dL_law_1721 (by decide) ?_
    refine lv_iinc (v := (nI (7 * (i + 1)))) (lv' := [(4, .int (nI (7 * (i + 1)))), (6, .int y), (5, .int (kCe nL (xs (7 * i + 1)) (xs (7 * i + 2)))), (0, .ref b), (1, .ref o), (2, .ref M), (3, .ref ou)]) hx hb dL_law_2489 hl (k := 6) rfl (ni_inc7 i) (by decide) rfl (fun ls hl => ?_)
    refine lv_goto (tgt := 23) hx hb dL_law_2492 (by decide) ?_
    exact W.widen (k := 40 + 10 * (i + 1)) (n := 70000 + 1200 * (i + 1)) (by omega) (by omega) (ih _ _ _ (li_end hou9 ⟨_, hO⟩ hM2 hp hn hC2 hi (by omega)) hS (lv_sub hl [3, 4, 5, 6, 0] rfl))
  · have hC2 := hP.same (fun q g1 g2 => q8 q g1 (fun h => g2.2.1 h))
    have hO := x_kept hO (q8 _ (q_lt hO) (fun h => absurd h.2 (Nat.lt_irrefl _)))
    have hp := hne hk
    refine lv_iload hx hb dL_law_1704 (lv_at hl 1 rfl) ?_
    refine lv_if_ne (tgt := 1721) hx hb dL_law_1706 (by decide) (fun _ => ?_) (fun q => absurd q hk)
    refine lv_goto (tgt := 2489) hx hb dL_law_1721 (by decide) ?_
    refine lv_iinc (v := (nI (7 * (i + 1)))) (lv' := [(4, .int (nI (7 * (i + 1)))), (6, .int y), (5, .int (kCe nL (xs (7 * i + 1)) (xs (7 * i + 2)))), (0, .ref b), (1, .ref o), (2, .ref M), (3, .ref ou)]) hx hb dL_law_2489 hl (k := 6) rfl (ni_inc7 i) (by decide) rfl (fun ls hl => ?_)
    refine lv_goto (tgt := 23) hx hb dL_law_2492 (by decide) ?_
    exact W.widen (k := 40 + 10 * (i + 1)) (n := 70000 + 1200 * (i + 1)) (by omega) (by omega) (ih _ _ _ (li_end hou9 ⟨_, hO⟩ hM2 hp hn hC2 hi (by omega)) hS (lv_sub hl [3, 4, 5, 6, 0] rfl))
set_option maxHeartbeats 4000000 in
set_option maxRecDepth 100000 in
theorem lw_c22 {p : Program} {l : Launch} {e : Env} {s : State} {m : MethodId} {below : List Frame} {meth : Method} {c : Code} {b L : Nat} {xs : Nat → Int32} {Q : State → Prop} (hx : p.tables.exec = Jvm.exec) (hb : c.code = cL_law) (hml : c.maxLocals = 8) (hown : s.vm.findClass RL = some m.cls) (hts : ∀ w ∈ wsL_law, w.before #[Value.ref b] s = true) {D : va_G} {cA : Nat → ClassId} (hK : xK D cA s) {z o M h1 ou : Nat} {ad : Nat → Nat} (hX : lK (fun q => s.heap.size ≤ q) z s) (hXs : va_X b L xs s s.heap) (hbl : b < s.heap.size) (hL : L ≤ 3584) (hst : l.stackTraces = false) (h01 : s.heap.size ≤ h1) (h1u : h1 ≤ ou) {i : Nat} (hi9 : 7 * i + 7 ≤ L) {H : Heap} {locs : List Loc} {ls : Array Slot} (hI : LI D cA s.heap.size h1 ou z o M ad i H) (hS : va_S (fun q => s.heap.size ≤ q) s.heap H locs) (hl : lv_has ls 8 [(0, .ref b), (1, .ref o), (2, .ref M), (3, .ref ou), (4, .int (nI (7 * i)))]) (ih : ∀ (H2 : Heap) (locs2 : List Loc) (ls2 : Array Slot), LI D cA s.heap.size h1 ou z o M ad (i + 1) H2 → va_S (fun q => s.heap.size ≤ q) s.heap H2 locs2 → lv_has ls2 8 [(0, .ref b), (1, .ref o), (2, .ref M), (3, .ref ou), (4, .int (nI (7 * (i + 1))))] → W p l e room_1 s m #[Value.ref b] below meth c H2 locs2 (40 + 10 * (i + 1)) (70000 + 1200 * (i + 1)) Q (F0 m 23 ls2 [])) : W p l e room_1 s m #[Value.ref b] below meth c H locs (40 + 10 * i) (70000 + 1200 * i) Q (F0 m 1724 ls []) := by
  obtain ⟨hou9, ⟨o1, hO⟩, σ, nC, nL, nV, hM, hn, hC, hi, hv⟩ := hI
  have hi5 : i ≤ 511 := by omega
  refine lv_aload_n hx hb dL_law_1724 rfl (lv_at hl 1 rfl) ?_
  refine lv_aload_n hx hb dL_law_1725 rfl (lv_at hl 0 rfl) ?_
  refine lv_iload hx hb dL_law_1726 (lv_at hl 4 rfl) ?_
  refine lv_iconst (v := 1) hx hb dL_law_1728 (by decide) ?_
  refine xe_iadd hx hb (nI_add (7 * i) 1) dL_law_1729 ?_
  refine va_sld hx hb hXs hbl (Nat.not_le.mpr hbl) hS (vp_in_nI (show 7 * i + 1 < L by omega) (by omega)) dL_law_1730 ?_
  rw [nI_clamp (show 7 * i + 1 < 2 ^ 31 by omega)]
  refine lv_aload_n hx hb dL_law_1731 rfl (lv_at hl 0 rfl) ?_
  refine lv_iload hx hb dL_law_1732 (lv_at hl 4 rfl) ?_
  refine lv_iconst (v := 2) hx hb dL_law_1734 (by decide) ?_
  refine xe_iadd hx hb (nI_add (7 * i) 2) dL_law_1735 ?_
  refine va_sld hx hb hXs hbl (Nat.not_le.mpr hbl) hS (vp_in_nI (show 7 * i + 2 < L by omega) (by omega)) dL_law_1736 ?_
  rw [nI_clamp (show 7 * i + 2 < 2 ^ 31 by omega)]
  refine lv_aload_n hx hb dL_law_1737 rfl (lv_at hl 3 rfl) ?_
  have hou8 : ¬ aC s.heap.size h1 ou ou := fun h => h.2.2 rfl
  have hAn : ∀ q, H.size ≤ q → aC s.heap.size h1 ou q := fun q h => ⟨by have := hS.1; omega, by omega, by omega⟩
  have hBA : ∀ q, (aC s.heap.size h1 ou q ∨ q = ou) → s.heap.size ≤ q := fun q h => h.elim (fun h => h.1) (fun e => by omega)
  refine xl_lcall (vx_runSW (As := [.ref o, .int (xs (7 * i + 1)), .int (xs (7 * i + 2)), .ref ou]) (rest := []) ⟨hx, hb, hml, hown, hts⟩ (c_L_rollback l hst D cA (aC s.heap.size h1 ou) z o ou σ.2.1 nC nL nV hi H (xs (7 * i + 1)) (xs (7 * i + 2)) hou8 hAn) (vx_cwSW 4 hts gL_law_L_rollback rfl rfl rfl (by decide +kernel) ⟨(Nat.le_of_ble_eq_true rfl), (Nat.le_of_ble_eq_true rfl)⟩) (xPXS hK lK.blind (fun U hU hW => hX.at hS hBA hU hW) ⟨rfl, hC, _, hO⟩) rfl rfl hl.1 rfl (lv_room (Nat.le_of_ble_eq_true rfl)) dL_law_1738 ⟨by show 40 + 10 * i + 5 ≤ 601024; omega, by show 70000 + 1200 * i + 1020 ≤ 7293034; omega⟩) hS (fun q _ h => hBA q h) (fun q h => hBA q h) (fun H locs hJ z9 q9 hS => ?_)
  have hM := hM.keptA (fun q g1 g2 => q9 q g1 (fun h => h.elim (fun h => h.2.1 g2) (fun e => by have := g2.2; omega)))
  have hou9 : ou < H.size := Nat.lt_of_lt_of_le hou9 z9
  refine lv_istore (lv' := [(5, .int (kRo (mS σ.2.1) nV (xs (7 * i + 1)) (xs (7 * i + 2)))), (0, .ref b), (1, .ref o), (2, .ref M), (3, .ref ou), (4, .int (nI (7 * i)))]) hx hb dL_law_1741 hl (by decide) rfl (fun ls hl => ?_)
  refine lv_aload_n hx hb dL_law_1743 rfl (lv_at hl 3 rfl) ?_
  refine lv_aload_n hx hb dL_law_1744 rfl (lv_at hl 1 rfl) ?_
  refine lv_iload hx hb dL_law_1745 (lv_at hl 5 rfl) ?_
  refine lv_iconst (v := 1) hx hb dL_law_1747 (by decide) ?_
  refine xe_iadd hx hb (nI_add (7 * i) 1) dL_law_1748 ?_
  refine va_sld hx hb hXs hbl (Nat.not_le.mpr hbl) hS (vp_in_nI (show 7 * i + 1 < L by omega) (by omega)) dL_law_1749 ?_
  rw [nI_clamp (show 7 * i + 1 < 2 ^ 31 by omega)]
  refine lv_aload_n hx hb dL_law_1750 rfl (lv_at hl 1 rfl) ?_
  refine lv_iload hx hb dL_law_1751 (lv_at hl 5 rfl) ?_
  refine lv_iconst (v := 2) hx hb dL_law_1753 (by decide) ?_
  refine xe_iadd hx hb (nI_add (7 * i) 2) dL_law_1754 ?_
  refine va_sld hx hb hXs hbl (Nat.not_le.mpr hbl) hS (vp_in_nI (show 7 * i + 2 < L by omega) (by omega)) dL_law_1755 ?_
  rw [nI_clamp (show 7 * i + 2 < 2 ^ 31 by omega)]
  have hMA : ∀ q, aM h1 ou q → s.heap.size ≤ q := fun q h => Nat.le_trans h01 h.1
  refine xl_mint (va_runV (As := [.int (xs (7 * i + 1)), .int (xs (7 * i + 2))]) (rest := []) ⟨hx, hb, hml, hown, hts⟩ (c_X7_rollback l D cA (aM h1 ou) M ad σ (xs (7 * i + 1)) (xs (7 * i + 2)) nV hn.2.2 (by omega)) (cwV 2 hts gL_law_X7_rollback rfl rfl rfl (by decide +kernel) ⟨(Nat.le_of_ble_eq_true rfl), (Nat.le_of_ble_eq_true rfl)⟩) (xPV hK hM.1 rfl hM) rfl rfl hl.1 rfl (lv_room (Nat.le_of_ble_eq_true rfl)) dL_law_1756 ⟨by show 40 + 10 * i + 5 + 0 ≤ 601024; omega, by show 70000 + 1200 * i + 1020 + 0 ≤ 7293034; omega⟩) hS (fun q _ h => hMA q h) (fun q h => hMA q h) (fun y σ2 H locs hM2 ht hne heq z8 q8 hS => ?_)
  have hou9 : ou < H.size := Nat.lt_of_lt_of_le hou9 z8
  refine lv_istore (lv' := [(6, .int y), (5, .int (kRo (mS σ.2.1) nV (xs (7 * i + 1)) (xs (7 * i + 2)))), (0, .ref b), (1, .ref o), (2, .ref M), (3, .ref ou), (4, .int (nI (7 * i)))]) hx hb dL_law_1759 hl (by decide) rfl (fun ls hl => ?_)
  refine lv_aload_n hx hb dL_law_1761 rfl (lv_at hl 4 rfl) ?_
  refine xr_call (va_runV (As := []) (rest := []) ⟨hx, hb, hml, hown, hts⟩ (c_X7_thrown l D cA (aM h1 ou) M ad σ2) (cwV 0 hts gL_law_X7_thrown rfl rfl rfl (by decide +kernel) ⟨(Nat.le_of_ble_eq_true rfl), (Nat.le_of_ble_eq_true rfl)⟩) (xPV hK hM2.1 rfl hM2) rfl rfl hl.1 rfl (lv_room (Nat.le_of_ble_eq_true rfl)) dL_law_1762 ⟨by show 40 + 10 * i + 5 + 0 + 0 ≤ 601024; omega, by show 70000 + 1200 * i + 1020 + 0 + 0 ≤ 7293034; omega⟩) ?_
  refine xe_top (y := (kRo (mS σ.2.1) nV (xs (7 * i + 1)) (xs (7 * i + 2)))) (show σ2.1 25 = (kRo (mS σ.2.1) nV (xs (7 * i + 1)) (xs (7 * i + 2))) from ht) ?_
  refine lv_iload hx hb dL_law_1765 (lv_at hl 1 rfl) ?_
  refine lv_icmp_eq (tgt := 1772) hx hb dL_law_1767 (by decide) (fun _ => ?_) (fun q => absurd rfl q)
  rcases hJ with ⟨hk, hP, hO⟩ | ⟨hk, hP, o2, hO⟩
  · have hC2 := hP.same (fun q g1 g2 => q8 q g1 (fun h => g2.2.1 h))
    have hO := x_kept hO (q8 _ (q_lt hO) (fun h => absurd h.2 (Nat.lt_irrefl _)))
    obtain ⟨hy, hp⟩ := heq hk
    refine lv_iload hx hb dL_law_1772 (lv_at hl 1 rfl) ?_
    refine lv_if_ne (tgt := 1789) hx hb dL_law_1774 (by decide) (fun q => absurd hk q) (fun _ => ?_)
    refine lv_aload_n hx hb dL_law_1777 rfl (lv_at hl 5 rfl) ?_
    refine lv_iconst (v := 0) hx hb dL_law_1778 (by decide) ?_
    refine x_lald hx hb hK hO 0 rfl (by omega) (by decide) dL_law_1779 ?_
    refine lv_iload hx hb dL_law_1780 (lv_at hl 0 rfl) ?_
    refine lv_i2l hx hb dL_law_1782 rfl ?_
    refine xe_lcmp hx hb dL_law_1783 (fun v9 hv9 => ?_)
    refine lv_if_eq (tgt := 1789) hx hb dL_law_1784 (by decide) (fun _ => ?_) (fun q => absurd (hv9.mpr (show ((nI (cntF (difF σ.2.1 (ix (xs (7 * i + 1)))) 128)).toInt64) = (y).toInt64 from by subst hy; rfl)) q)
    refine lv_goto (tgt := 2489) hx hb dL_law_1789 (by decide) ?_
    refine lv_iinc (v := (nI (7 * (i + 1)))) (lv' := [(4, .int (nI (7 * (i + 1)))), (6, .int y), (5, .int (kRo (mS σ.2.1) nV (xs (7 * i + 1)) (xs (7 * i + 2)))), (0, .ref b), (1, .ref o), (2, .ref M), (3, .ref ou)]) hx hb dL_law_2489 hl (k := 6) rfl (ni_inc7 i) (by decide) rfl (fun ls hl => ?_)
    refine lv_goto (tgt := 23) hx hb dL_law_2492 (by decide) ?_
    exact W.widen (k := 40 + 10 * (i + 1)) (n := 70000 + 1200 * (i + 1)) (by omega) (by omega) (ih _ _ _ (li_end hou9 ⟨_, hO⟩ hM2 hp (mN_ro hn (ix (xs (7 * i + 1))) (cntF (difF σ.2.1 (ix (xs (7 * i + 1)))) 128)) (by rw [ro_ms]; exact hC2) (by rw [ro_ms]; exact hi.ro (by omega) hk) (by split <;> omega)) hS (lv_sub hl [3, 4, 5, 6, 0] rfl))
  · have hC2 := hP.same (fun q g1 g2 => q8 q g1 (fun h => g2.2.1 h))
    have hO := x_kept hO (q8 _ (q_lt hO) (fun h => absurd h.2 (Nat.lt_irrefl _)))
    have hp := hne hk
    refine lv_iload hx hb dL_law_1772 (lv_at hl 1 rfl) ?_
    refine lv_if_ne (tgt := 1789) hx hb dL_law_1774 (by decide) (fun _ => ?_) (fun q => absurd q hk)
    refine lv_goto (tgt := 2489) hx hb dL_law_1789 (by decide) ?_
    refine lv_iinc (v := (nI (7 * (i + 1)))) (lv' := [(4, .int (nI (7 * (i + 1)))), (6, .int y), (5, .int (kRo (mS σ.2.1) nV (xs (7 * i + 1)) (xs (7 * i + 2)))), (0, .ref b), (1, .ref o), (2, .ref M), (3, .ref ou)]) hx hb dL_law_2489 hl (k := 6) rfl (ni_inc7 i) (by decide) rfl (fun ls hl => ?_)
    refine lv_goto (tgt := 23) hx hb dL_law_2492 (by decide) ?_
    exact W.widen (k := 40 + 10 * (i + 1)) (n := 70000 + 1200 * (i + 1)) (by omega) (by omega) (ih _ _ _ (li_end hou9 ⟨_, hO⟩ hM2 hp hn hC2 hi (by omega)) hS (lv_sub hl [3, 4, 5, 6, 0] rfl))
set_option maxHeartbeats 4000000 in
set_option maxRecDepth 100000 in
theorem lw_c23 {p : Program} {l : Launch} {e : Env} {s : State} {m : MethodId} {below : List Frame} {meth : Method} {c : Code} {b L : Nat} {xs : Nat → Int32} {Q : State → Prop} (hx : p.tables.exec = Jvm.exec) (hb : c.code = cL_law) (hml : c.maxLocals = 8) (hown : s.vm.findClass RL = some m.cls) (hts : ∀ w ∈ wsL_law, w.before #[Value.ref b] s = true) {D : va_G} {cA : Nat → ClassId} (hK : xK D cA s) {z o M h1 ou : Nat} {ad : Nat → Nat} (hX : lK (fun q => s.heap.size ≤ q) z s) (hXs : va_X b L xs s s.heap) (hbl : b < s.heap.size) (hL : L ≤ 3584) (hst : l.stackTraces = false) (h01 : s.heap.size ≤ h1) (h1u : h1 ≤ ou) {i : Nat} (hi9 : 7 * i + 7 ≤ L) {H : Heap} {locs : List Loc} {ls : Array Slot} (hI : LI D cA s.heap.size h1 ou z o M ad i H) (hS : va_S (fun q => s.heap.size ≤ q) s.heap H locs) (hl : lv_has ls 8 [(0, .ref b), (1, .ref o), (2, .ref M), (3, .ref ou), (4, .int (nI (7 * i)))]) (ih : ∀ (H2 : Heap) (locs2 : List Loc) (ls2 : Array Slot), LI D cA s.heap.size h1 ou z o M ad (i + 1) H2 → va_S (fun q => s.heap.size ≤ q) s.heap H2 locs2 → lv_has ls2 8 [(0, .ref b), (1, .ref o), (2, .ref M), (3, .ref ou), (4, .int (nI (7 * (i + 1))))] → W p l e room_1 s m #[Value.ref b] below meth c H2 locs2 (40 + 10 * (i + 1)) (70000 + 1200 * (i + 1)) Q (F0 m 23 ls2 [])) : W p l e room_1 s m #[Value.ref b] below meth c H locs (40 + 10 * i) (70000 + 1200 * i) Q (F0 m 1792 ls []) := by
  obtain ⟨hou9, ⟨o1, hO⟩, σ, nC, nL, nV, hM, hn, hC, hi, hv⟩ := hI
  have hi5 : i ≤ 511 := by omega
  refine lv_aload_n hx hb dL_law_1792 rfl (lv_at hl 1 rfl) ?_
  refine lv_aload_n hx hb dL_law_1793 rfl (lv_at hl 0 rfl) ?_
  refine lv_iload hx hb dL_law_1794 (lv_at hl 4 rfl) ?_
  refine lv_iconst (v := 1) hx hb dL_law_1796 (by decide) ?_
  refine xe_iadd hx hb (nI_add (7 * i) 1) dL_law_1797 ?_
  refine va_sld hx hb hXs hbl (Nat.not_le.mpr hbl) hS (vp_in_nI (show 7 * i + 1 < L by omega) (by omega)) dL_law_1798 ?_
  rw [nI_clamp (show 7 * i + 1 < 2 ^ 31 by omega)]
  refine lv_aload_n hx hb dL_law_1799 rfl (lv_at hl 0 rfl) ?_
  refine lv_iload hx hb dL_law_1800 (lv_at hl 4 rfl) ?_
  refine lv_iconst (v := 2) hx hb dL_law_1802 (by decide) ?_
  refine xe_iadd hx hb (nI_add (7 * i) 2) dL_law_1803 ?_
  refine va_sld hx hb hXs hbl (Nat.not_le.mpr hbl) hS (vp_in_nI (show 7 * i + 2 < L by omega) (by omega)) dL_law_1804 ?_
  rw [nI_clamp (show 7 * i + 2 < 2 ^ 31 by omega)]
  refine lv_aload_n hx hb dL_law_1805 rfl (lv_at hl 3 rfl) ?_
  have hou8 : ¬ aC s.heap.size h1 ou ou := fun h => h.2.2 rfl
  have hAn : ∀ q, H.size ≤ q → aC s.heap.size h1 ou q := fun q h => ⟨by have := hS.1; omega, by omega, by omega⟩
  have hBA : ∀ q, (aC s.heap.size h1 ou q ∨ q = ou) → s.heap.size ≤ q := fun q h => h.elim (fun h => h.1) (fun e => by omega)
  refine xl_lcall (vx_runSW (As := [.ref o, .int (xs (7 * i + 1)), .int (xs (7 * i + 2)), .ref ou]) (rest := []) ⟨hx, hb, hml, hown, hts⟩ (c_L_value l hst D cA (aC s.heap.size h1 ou) z o ou σ.2.1 nC nL nV hi H (xs (7 * i + 1)) (xs (7 * i + 2)) hou8 hAn) (vx_cwSW 4 hts gL_law_L_value rfl rfl rfl (by decide +kernel) ⟨(Nat.le_of_ble_eq_true rfl), (Nat.le_of_ble_eq_true rfl)⟩) (xPXS hK lK.blind (fun U hU hW => hX.at hS hBA hU hW) ⟨rfl, hC, _, hO⟩) rfl rfl hl.1 rfl (lv_room (Nat.le_of_ble_eq_true rfl)) dL_law_1806 ⟨by show 40 + 10 * i + 3 ≤ 601024; omega, by show 70000 + 1200 * i + 18 ≤ 7293034; omega⟩) hS (fun q _ h => hBA q h) (fun q h => hBA q h) (fun H locs hJ z9 q9 hS => ?_)
  have hM := hM.keptA (fun q g1 g2 => q9 q g1 (fun h => h.elim (fun h => h.2.1 g2) (fun e => by have := g2.2; omega)))
  have hou9 : ou < H.size := Nat.lt_of_lt_of_le hou9 z9
  refine lv_istore (lv' := [(5, .int (kVa (mS σ.2.1) nL nC (xs (7 * i + 1)) (xs (7 * i + 2)))), (0, .ref b), (1, .ref o), (2, .ref M), (3, .ref ou), (4, .int (nI (7 * i)))]) hx hb dL_law_1809 hl (by decide) rfl (fun ls hl => ?_)
  refine lv_aload_n hx hb dL_law_1811 rfl (lv_at hl 3 rfl) ?_
  refine lv_aload_n hx hb dL_law_1812 rfl (lv_at hl 1 rfl) ?_
  refine lv_iload hx hb dL_law_1813 (lv_at hl 5 rfl) ?_
  refine lv_iconst (v := 1) hx hb dL_law_1815 (by decide) ?_
  refine xe_iadd hx hb (nI_add (7 * i) 1) dL_law_1816 ?_
  refine va_sld hx hb hXs hbl (Nat.not_le.mpr hbl) hS (vp_in_nI (show 7 * i + 1 < L by omega) (by omega)) dL_law_1817 ?_
  rw [nI_clamp (show 7 * i + 1 < 2 ^ 31 by omega)]
  refine lv_aload_n hx hb dL_law_1818 rfl (lv_at hl 1 rfl) ?_
  refine lv_iload hx hb dL_law_1819 (lv_at hl 5 rfl) ?_
  refine lv_iconst (v := 2) hx hb dL_law_1821 (by decide) ?_
  refine xe_iadd hx hb (nI_add (7 * i) 2) dL_law_1822 ?_
  refine va_sld hx hb hXs hbl (Nat.not_le.mpr hbl) hS (vp_in_nI (show 7 * i + 2 < L by omega) (by omega)) dL_law_1823 ?_
  rw [nI_clamp (show 7 * i + 2 < 2 ^ 31 by omega)]
  have hMA : ∀ q, aM h1 ou q → s.heap.size ≤ q := fun q h => Nat.le_trans h01 h.1
  refine xl_mlong (va_runV (As := [.int (xs (7 * i + 1)), .int (xs (7 * i + 2))]) (rest := []) ⟨hx, hb, hml, hown, hts⟩ (c_X7_value l D cA (aM h1 ou) M ad σ (xs (7 * i + 1)) (xs (7 * i + 2)) nL hn.2.1 hi.2.1 nC hn.1 hi.1 (gdR.dc hi.2.2.2.2.1 nL)) (cwV 2 hts gL_law_X7_value rfl rfl rfl (by decide +kernel) ⟨(Nat.le_of_ble_eq_true rfl), (Nat.le_of_ble_eq_true rfl)⟩) (xPV hK hM.1 rfl hM) rfl rfl hl.1 rfl (lv_room (Nat.le_of_ble_eq_true rfl)) dL_law_1824 ⟨by show 40 + 10 * i + 3 + 0 ≤ 601024; omega, by show 70000 + 1200 * i + 18 + 0 ≤ 7293034; omega⟩) hS (fun q _ h => hMA q h) (fun q h => hMA q h) (fun y σ2 H locs hM2 ht hne heq z8 q8 hS => ?_)
  have hou9 : ou < H.size := Nat.lt_of_lt_of_le hou9 z8
  refine lv_lstore (lv' := [(6, .long y), (5, .int (kVa (mS σ.2.1) nL nC (xs (7 * i + 1)) (xs (7 * i + 2)))), (0, .ref b), (1, .ref o), (2, .ref M), (3, .ref ou), (4, .int (nI (7 * i)))]) hx hb dL_law_1827 hl (by decide) rfl (fun ls hl => ?_)
  refine lv_aload_n hx hb dL_law_1829 rfl (lv_at hl 4 rfl) ?_
  refine xr_call (va_runV (As := []) (rest := []) ⟨hx, hb, hml, hown, hts⟩ (c_X7_thrown l D cA (aM h1 ou) M ad σ2) (cwV 0 hts gL_law_X7_thrown rfl rfl rfl (by decide +kernel) ⟨(Nat.le_of_ble_eq_true rfl), (Nat.le_of_ble_eq_true rfl)⟩) (xPV hK hM2.1 rfl hM2) rfl rfl hl.1 rfl (lv_room (Nat.le_of_ble_eq_true rfl)) dL_law_1830 ⟨by show 40 + 10 * i + 3 + 0 + 0 ≤ 601024; omega, by show 70000 + 1200 * i + 18 + 0 + 0 ≤ 7293034; omega⟩) ?_
  refine xe_top (y := (kVa (mS σ.2.1) nL nC (xs (7 * i + 1)) (xs (7 * i + 2)))) (show σ2.1 25 = (kVa (mS σ.2.1) nL nC (xs (7 * i + 1)) (xs (7 * i + 2))) from ht) ?_
  refine lv_iload hx hb dL_law_1833 (lv_at hl 1 rfl) ?_
  refine lv_icmp_eq (tgt := 1840) hx hb dL_law_1835 (by decide) (fun _ => ?_) (fun q => absurd rfl q)
  rcases hJ with ⟨hk, hP, hO⟩ | ⟨hk, hP, o2, hO⟩
  · have hC2 := hP.same (fun q g1 g2 => q8 q g1 (fun h => g2.2.1 h))
    have hO := x_kept hO (q8 _ (q_lt hO) (fun h => absurd h.2 (Nat.lt_irrefl _)))
    obtain ⟨hy, hp⟩ := heq hk
    refine lv_iload hx hb dL_law_1840 (lv_at hl 1 rfl) ?_
    refine lv_if_ne (tgt := 1856) hx hb dL_law_1842 (by decide) (fun q => absurd hk q) (fun _ => ?_)
    refine lv_aload_n hx hb dL_law_1845 rfl (lv_at hl 5 rfl) ?_
    refine lv_iconst (v := 0) hx hb dL_law_1846 (by decide) ?_
    refine x_lald hx hb hK hO 0 rfl (by omega) (by decide) dL_law_1847 ?_
    refine lv_lload hx hb dL_law_1848 (lv_at hl 0 rfl) ?_
    refine xe_lcmp hx hb dL_law_1850 (fun v9 hv9 => ?_)
    refine lv_if_eq (tgt := 1856) hx hb dL_law_1851 (by decide) (fun _ => ?_) (fun q => absurd (hv9.mpr (show (akV (akE (mS σ.2.1) (ix (xs (7 * i + 1))) none nL (ix (xs (7 * i + 2)))) (ix (xs (7 * i + 2)))) = y from by subst hy; rfl)) q)
    refine lv_goto (tgt := 2489) hx hb dL_law_1856 (by decide) ?_
    refine lv_iinc (v := (nI (7 * (i + 1)))) (lv' := [(4, .int (nI (7 * (i + 1)))), (6, .long y), (5, .int (kVa (mS σ.2.1) nL nC (xs (7 * i + 1)) (xs (7 * i + 2)))), (0, .ref b), (1, .ref o), (2, .ref M), (3, .ref ou)]) hx hb dL_law_2489 hl (k := 6) rfl (ni_inc7 i) (by decide) rfl (fun ls hl => ?_)
    refine lv_goto (tgt := 23) hx hb dL_law_2492 (by decide) ?_
    exact W.widen (k := 40 + 10 * (i + 1)) (n := 70000 + 1200 * (i + 1)) (by omega) (by omega) (ih _ _ _ (li_end hou9 ⟨_, hO⟩ hM2 hp hn hC2 hi (by omega)) hS (lv_sub hl [3, 4, 5, 6, 0] rfl))
  · have hC2 := hP.same (fun q g1 g2 => q8 q g1 (fun h => g2.2.1 h))
    have hO := x_kept hO (q8 _ (q_lt hO) (fun h => absurd h.2 (Nat.lt_irrefl _)))
    have hp := hne hk
    refine lv_iload hx hb dL_law_1840 (lv_at hl 1 rfl) ?_
    refine lv_if_ne (tgt := 1856) hx hb dL_law_1842 (by decide) (fun _ => ?_) (fun q => absurd q hk)
    refine lv_goto (tgt := 2489) hx hb dL_law_1856 (by decide) ?_
    refine lv_iinc (v := (nI (7 * (i + 1)))) (lv' := [(4, .int (nI (7 * (i + 1)))), (6, .long y), (5, .int (kVa (mS σ.2.1) nL nC (xs (7 * i + 1)) (xs (7 * i + 2)))), (0, .ref b), (1, .ref o), (2, .ref M), (3, .ref ou)]) hx hb dL_law_2489 hl (k := 6) rfl (ni_inc7 i) (by decide) rfl (fun ls hl => ?_)
    refine lv_goto (tgt := 23) hx hb dL_law_2492 (by decide) ?_
    exact W.widen (k := 40 + 10 * (i + 1)) (n := 70000 + 1200 * (i + 1)) (by omega) (by omega) (ih _ _ _ (li_end hou9 ⟨_, hO⟩ hM2 hp hn hC2 hi (by omega)) hS (lv_sub hl [3, 4, 5, 6, 0] rfl))
set_option maxHeartbeats 4000000 in
set_option maxRecDepth 100000 in
theorem lw_c24 {p : Program} {l : Launch} {e : Env} {s : State} {m : MethodId} {below : List Frame} {meth : Method} {c : Code} {b L : Nat} {xs : Nat → Int32} {Q : State → Prop} (hx : p.tables.exec = Jvm.exec) (hb : c.code = cL_law) (hml : c.maxLocals = 8) (hown : s.vm.findClass RL = some m.cls) (hts : ∀ w ∈ wsL_law, w.before #[Value.ref b] s = true) {D : va_G} {cA : Nat → ClassId} (hK : xK D cA s) {z o M h1 ou : Nat} {ad : Nat → Nat} (hX : lK (fun q => s.heap.size ≤ q) z s) (hXs : va_X b L xs s s.heap) (hbl : b < s.heap.size) (hL : L ≤ 3584) (hst : l.stackTraces = false) (h01 : s.heap.size ≤ h1) (h1u : h1 ≤ ou) {i : Nat} (hi9 : 7 * i + 7 ≤ L) {H : Heap} {locs : List Loc} {ls : Array Slot} (hI : LI D cA s.heap.size h1 ou z o M ad i H) (hS : va_S (fun q => s.heap.size ≤ q) s.heap H locs) (hl : lv_has ls 8 [(0, .ref b), (1, .ref o), (2, .ref M), (3, .ref ou), (4, .int (nI (7 * i)))]) (ih : ∀ (H2 : Heap) (locs2 : List Loc) (ls2 : Array Slot), LI D cA s.heap.size h1 ou z o M ad (i + 1) H2 → va_S (fun q => s.heap.size ≤ q) s.heap H2 locs2 → lv_has ls2 8 [(0, .ref b), (1, .ref o), (2, .ref M), (3, .ref ou), (4, .int (nI (7 * (i + 1))))] → W p l e room_1 s m #[Value.ref b] below meth c H2 locs2 (40 + 10 * (i + 1)) (70000 + 1200 * (i + 1)) Q (F0 m 23 ls2 [])) : W p l e room_1 s m #[Value.ref b] below meth c H locs (40 + 10 * i) (70000 + 1200 * i) Q (F0 m 1859 ls []) := by
  obtain ⟨hou9, ⟨o1, hO⟩, σ, nC, nL, nV, hM, hn, hC, hi, hv⟩ := hI
  have hi5 : i ≤ 511 := by omega
  refine lv_aload_n hx hb dL_law_1859 rfl (lv_at hl 1 rfl) ?_
  refine lv_aload_n hx hb dL_law_1860 rfl (lv_at hl 0 rfl) ?_
  refine lv_iload hx hb dL_law_1861 (lv_at hl 4 rfl) ?_
  refine lv_iconst (v := 1) hx hb dL_law_1863 (by decide) ?_
  refine xe_iadd hx hb (nI_add (7 * i) 1) dL_law_1864 ?_
  refine va_sld hx hb hXs hbl (Nat.not_le.mpr hbl) hS (vp_in_nI (show 7 * i + 1 < L by omega) (by omega)) dL_law_1865 ?_
  rw [nI_clamp (show 7 * i + 1 < 2 ^ 31 by omega)]
  refine lv_aload_n hx hb dL_law_1866 rfl (lv_at hl 0 rfl) ?_
  refine lv_iload hx hb dL_law_1867 (lv_at hl 4 rfl) ?_
  refine lv_iconst (v := 2) hx hb dL_law_1869 (by decide) ?_
  refine xe_iadd hx hb (nI_add (7 * i) 2) dL_law_1870 ?_
  refine va_sld hx hb hXs hbl (Nat.not_le.mpr hbl) hS (vp_in_nI (show 7 * i + 2 < L by omega) (by omega)) dL_law_1871 ?_
  rw [nI_clamp (show 7 * i + 2 < 2 ^ 31 by omega)]
  refine lv_aload_n hx hb dL_law_1872 rfl (lv_at hl 3 rfl) ?_
  have hou8 : ¬ aC s.heap.size h1 ou ou := fun h => h.2.2 rfl
  have hAn : ∀ q, H.size ≤ q → aC s.heap.size h1 ou q := fun q h => ⟨by have := hS.1; omega, by omega, by omega⟩
  have hBA : ∀ q, (aC s.heap.size h1 ou q ∨ q = ou) → s.heap.size ≤ q := fun q h => h.elim (fun h => h.1) (fun e => by omega)
  refine xl_lcall (vx_runSW (As := [.ref o, .int (xs (7 * i + 1)), .int (xs (7 * i + 2)), .ref ou]) (rest := []) ⟨hx, hb, hml, hown, hts⟩ (c_L_status l hst D cA (aC s.heap.size h1 ou) z o ou σ.2.1 nC nL nV hi H (xs (7 * i + 1)) (xs (7 * i + 2)) hou8 hAn) (vx_cwSW 4 hts gL_law_L_status rfl rfl rfl (by decide +kernel) ⟨(Nat.le_of_ble_eq_true rfl), (Nat.le_of_ble_eq_true rfl)⟩) (xPXS hK lK.blind (fun U hU hW => hX.at hS hBA hU hW) ⟨rfl, hC, _, hO⟩) rfl rfl hl.1 rfl (lv_room (Nat.le_of_ble_eq_true rfl)) dL_law_1873 ⟨by show 40 + 10 * i + 3 ≤ 601024; omega, by show 70000 + 1200 * i + 18 ≤ 7293034; omega⟩) hS (fun q _ h => hBA q h) (fun q h => hBA q h) (fun H locs hJ z9 q9 hS => ?_)
  have hM := hM.keptA (fun q g1 g2 => q9 q g1 (fun h => h.elim (fun h => h.2.1 g2) (fun e => by have := g2.2; omega)))
  have hou9 : ou < H.size := Nat.lt_of_lt_of_le hou9 z9
  refine lv_istore (lv' := [(5, .int (kFo nC (xs (7 * i + 1)) (xs (7 * i + 2)))), (0, .ref b), (1, .ref o), (2, .ref M), (3, .ref ou), (4, .int (nI (7 * i)))]) hx hb dL_law_1876 hl (by decide) rfl (fun ls hl => ?_)
  refine lv_aload_n hx hb dL_law_1878 rfl (lv_at hl 3 rfl) ?_
  refine lv_aload_n hx hb dL_law_1879 rfl (lv_at hl 1 rfl) ?_
  refine lv_iload hx hb dL_law_1880 (lv_at hl 5 rfl) ?_
  refine lv_iconst (v := 1) hx hb dL_law_1882 (by decide) ?_
  refine xe_iadd hx hb (nI_add (7 * i) 1) dL_law_1883 ?_
  refine va_sld hx hb hXs hbl (Nat.not_le.mpr hbl) hS (vp_in_nI (show 7 * i + 1 < L by omega) (by omega)) dL_law_1884 ?_
  rw [nI_clamp (show 7 * i + 1 < 2 ^ 31 by omega)]
  refine lv_aload_n hx hb dL_law_1885 rfl (lv_at hl 1 rfl) ?_
  refine lv_iload hx hb dL_law_1886 (lv_at hl 5 rfl) ?_
  refine lv_iconst (v := 2) hx hb dL_law_1888 (by decide) ?_
  refine xe_iadd hx hb (nI_add (7 * i) 2) dL_law_1889 ?_
  refine va_sld hx hb hXs hbl (Nat.not_le.mpr hbl) hS (vp_in_nI (show 7 * i + 2 < L by omega) (by omega)) dL_law_1890 ?_
  rw [nI_clamp (show 7 * i + 2 < 2 ^ 31 by omega)]
  have hMA : ∀ q, aM h1 ou q → s.heap.size ≤ q := fun q h => Nat.le_trans h01 h.1
  refine xl_mint (va_runV (As := [.int (xs (7 * i + 1)), .int (xs (7 * i + 2))]) (rest := []) ⟨hx, hb, hml, hown, hts⟩ (c_X7_status l D cA (aM h1 ou) M ad σ (xs (7 * i + 1)) (xs (7 * i + 2)) nL hn.2.1 hi.2.1 nC hn.1 hi.1 (gdR.dc hi.2.2.2.2.1 nL)) (cwV 2 hts gL_law_X7_status rfl rfl rfl (by decide +kernel) ⟨(Nat.le_of_ble_eq_true rfl), (Nat.le_of_ble_eq_true rfl)⟩) (xPV hK hM.1 rfl hM) rfl rfl hl.1 rfl (lv_room (Nat.le_of_ble_eq_true rfl)) dL_law_1891 ⟨by show 40 + 10 * i + 3 + 0 ≤ 601024; omega, by show 70000 + 1200 * i + 18 + 0 ≤ 7293034; omega⟩) hS (fun q _ h => hMA q h) (fun q h => hMA q h) (fun y σ2 H locs hM2 ht hne heq z8 q8 hS => ?_)
  have hou9 : ou < H.size := Nat.lt_of_lt_of_le hou9 z8
  refine lv_istore (lv' := [(6, .int y), (5, .int (kFo nC (xs (7 * i + 1)) (xs (7 * i + 2)))), (0, .ref b), (1, .ref o), (2, .ref M), (3, .ref ou), (4, .int (nI (7 * i)))]) hx hb dL_law_1894 hl (by decide) rfl (fun ls hl => ?_)
  refine lv_aload_n hx hb dL_law_1896 rfl (lv_at hl 4 rfl) ?_
  refine xr_call (va_runV (As := []) (rest := []) ⟨hx, hb, hml, hown, hts⟩ (c_X7_thrown l D cA (aM h1 ou) M ad σ2) (cwV 0 hts gL_law_X7_thrown rfl rfl rfl (by decide +kernel) ⟨(Nat.le_of_ble_eq_true rfl), (Nat.le_of_ble_eq_true rfl)⟩) (xPV hK hM2.1 rfl hM2) rfl rfl hl.1 rfl (lv_room (Nat.le_of_ble_eq_true rfl)) dL_law_1897 ⟨by show 40 + 10 * i + 3 + 0 + 0 ≤ 601024; omega, by show 70000 + 1200 * i + 18 + 0 + 0 ≤ 7293034; omega⟩) ?_
  refine xe_top (y := (kFo nC (xs (7 * i + 1)) (xs (7 * i + 2)))) (show σ2.1 25 = (kFo nC (xs (7 * i + 1)) (xs (7 * i + 2))) from ht) ?_
  refine lv_iload hx hb dL_law_1900 (lv_at hl 1 rfl) ?_
  refine lv_icmp_eq (tgt := 1907) hx hb dL_law_1902 (by decide) (fun _ => ?_) (fun q => absurd rfl q)
  rcases hJ with ⟨hk, hP, hO⟩ | ⟨hk, hP, o2, hO⟩
  · have hC2 := hP.same (fun q g1 g2 => q8 q g1 (fun h => g2.2.1 h))
    have hO := x_kept hO (q8 _ (q_lt hO) (fun h => absurd h.2 (Nat.lt_irrefl _)))
    obtain ⟨hy, hp⟩ := heq hk
    refine lv_iload hx hb dL_law_1907 (lv_at hl 1 rfl) ?_
    refine lv_if_ne (tgt := 1924) hx hb dL_law_1909 (by decide) (fun q => absurd hk q) (fun _ => ?_)
    refine lv_aload_n hx hb dL_law_1912 rfl (lv_at hl 5 rfl) ?_
    refine lv_iconst (v := 0) hx hb dL_law_1913 (by decide) ?_
    refine x_lald hx hb hK hO 0 rfl (by omega) (by decide) dL_law_1914 ?_
    refine lv_iload hx hb dL_law_1915 (lv_at hl 0 rfl) ?_
    refine lv_i2l hx hb dL_law_1917 rfl ?_
    refine xe_lcmp hx hb dL_law_1918 (fun v9 hv9 => ?_)
    refine lv_if_eq (tgt := 1924) hx hb dL_law_1919 (by decide) (fun _ => ?_) (fun q => absurd (hv9.mpr (show ((akT (akE (mS σ.2.1) (ix (xs (7 * i + 1))) none nL (ix (xs (7 * i + 2))))).toInt64) = (y).toInt64 from by subst hy; rfl)) q)
    refine lv_goto (tgt := 2489) hx hb dL_law_1924 (by decide) ?_
    refine lv_iinc (v := (nI (7 * (i + 1)))) (lv' := [(4, .int (nI (7 * (i + 1)))), (6, .int y), (5, .int (kFo nC (xs (7 * i + 1)) (xs (7 * i + 2)))), (0, .ref b), (1, .ref o), (2, .ref M), (3, .ref ou)]) hx hb dL_law_2489 hl (k := 6) rfl (ni_inc7 i) (by decide) rfl (fun ls hl => ?_)
    refine lv_goto (tgt := 23) hx hb dL_law_2492 (by decide) ?_
    exact W.widen (k := 40 + 10 * (i + 1)) (n := 70000 + 1200 * (i + 1)) (by omega) (by omega) (ih _ _ _ (li_end hou9 ⟨_, hO⟩ hM2 hp hn hC2 hi (by omega)) hS (lv_sub hl [3, 4, 5, 6, 0] rfl))
  · have hC2 := hP.same (fun q g1 g2 => q8 q g1 (fun h => g2.2.1 h))
    have hO := x_kept hO (q8 _ (q_lt hO) (fun h => absurd h.2 (Nat.lt_irrefl _)))
    have hp := hne hk
    refine lv_iload hx hb dL_law_1907 (lv_at hl 1 rfl) ?_
    refine lv_if_ne (tgt := 1924) hx hb dL_law_1909 (by decide) (fun _ => ?_) (fun q => absurd q hk)
    refine lv_goto (tgt := 2489) hx hb dL_law_1924 (by decide) ?_
    refine lv_iinc (v := (nI (7 * (i + 1)))) (lv' := [(4, .int (nI (7 * (i + 1)))), (6, .int y), (5, .int (kFo nC (xs (7 * i + 1)) (xs (7 * i + 2)))), (0, .ref b), (1, .ref o), (2, .ref M), (3, .ref ou)]) hx hb dL_law_2489 hl (k := 6) rfl (ni_inc7 i) (by decide) rfl (fun ls hl => ?_)
    refine lv_goto (tgt := 23) hx hb dL_law_2492 (by decide) ?_
    exact W.widen (k := 40 + 10 * (i + 1)) (n := 70000 + 1200 * (i + 1)) (by omega) (by omega) (ih _ _ _ (li_end hou9 ⟨_, hO⟩ hM2 hp hn hC2 hi (by omega)) hS (lv_sub hl [3, 4, 5, 6, 0] rfl))
set_option maxHeartbeats 4000000 in
set_option maxRecDepth 100000 in
theorem lw_c25 {p : Program} {l : Launch} {e : Env} {s : State} {m : MethodId} {below : List Frame} {meth : Method} {c : Code} {b L : Nat} {xs : Nat → Int32} {Q : State → Prop} (hx : p.tables.exec = Jvm.exec) (hb : c.code = cL_law) (hml : c.maxLocals = 8) (hown : s.vm.findClass RL = some m.cls) (hts : ∀ w ∈ wsL_law, w.before #[Value.ref b] s = true) {D : va_G} {cA : Nat → ClassId} (hK : xK D cA s) {z o M h1 ou : Nat} {ad : Nat → Nat} (hX : lK (fun q => s.heap.size ≤ q) z s) (hXs : va_X b L xs s s.heap) (hbl : b < s.heap.size) (hL : L ≤ 3584) (hst : l.stackTraces = false) (h01 : s.heap.size ≤ h1) (h1u : h1 ≤ ou) {i : Nat} (hi9 : 7 * i + 7 ≤ L) {H : Heap} {locs : List Loc} {ls : Array Slot} (hI : LI D cA s.heap.size h1 ou z o M ad i H) (hS : va_S (fun q => s.heap.size ≤ q) s.heap H locs) (hl : lv_has ls 8 [(0, .ref b), (1, .ref o), (2, .ref M), (3, .ref ou), (4, .int (nI (7 * i)))]) (ih : ∀ (H2 : Heap) (locs2 : List Loc) (ls2 : Array Slot), LI D cA s.heap.size h1 ou z o M ad (i + 1) H2 → va_S (fun q => s.heap.size ≤ q) s.heap H2 locs2 → lv_has ls2 8 [(0, .ref b), (1, .ref o), (2, .ref M), (3, .ref ou), (4, .int (nI (7 * (i + 1))))] → W p l e room_1 s m #[Value.ref b] below meth c H2 locs2 (40 + 10 * (i + 1)) (70000 + 1200 * (i + 1)) Q (F0 m 23 ls2 [])) : W p l e room_1 s m #[Value.ref b] below meth c H locs (40 + 10 * i) (70000 + 1200 * i) Q (F0 m 1927 ls []) := by
  obtain ⟨hou9, ⟨o1, hO⟩, σ, nC, nL, nV, hM, hn, hC, hi, hv⟩ := hI
  have hi5 : i ≤ 511 := by omega
  refine lv_aload_n hx hb dL_law_1927 rfl (lv_at hl 1 rfl) ?_
  refine lv_aload_n hx hb dL_law_1928 rfl (lv_at hl 0 rfl) ?_
  refine lv_iload hx hb dL_law_1929 (lv_at hl 4 rfl) ?_
  refine lv_iconst (v := 1) hx hb dL_law_1931 (by decide) ?_
  refine xe_iadd hx hb (nI_add (7 * i) 1) dL_law_1932 ?_
  refine va_sld hx hb hXs hbl (Nat.not_le.mpr hbl) hS (vp_in_nI (show 7 * i + 1 < L by omega) (by omega)) dL_law_1933 ?_
  rw [nI_clamp (show 7 * i + 1 < 2 ^ 31 by omega)]
  refine lv_aload_n hx hb dL_law_1934 rfl (lv_at hl 0 rfl) ?_
  refine lv_iload hx hb dL_law_1935 (lv_at hl 4 rfl) ?_
  refine lv_iconst (v := 2) hx hb dL_law_1937 (by decide) ?_
  refine xe_iadd hx hb (nI_add (7 * i) 2) dL_law_1938 ?_
  refine va_sld hx hb hXs hbl (Nat.not_le.mpr hbl) hS (vp_in_nI (show 7 * i + 2 < L by omega) (by omega)) dL_law_1939 ?_
  rw [nI_clamp (show 7 * i + 2 < 2 ^ 31 by omega)]
  refine lv_aload_n hx hb dL_law_1940 rfl (lv_at hl 3 rfl) ?_
  have hou8 : ¬ aC s.heap.size h1 ou ou := fun h => h.2.2 rfl
  have hAn : ∀ q, H.size ≤ q → aC s.heap.size h1 ou q := fun q h => ⟨by have := hS.1; omega, by omega, by omega⟩
  have hBA : ∀ q, (aC s.heap.size h1 ou q ∨ q = ou) → s.heap.size ≤ q := fun q h => h.elim (fun h => h.1) (fun e => by omega)
  refine xl_lcall (vx_runSW (As := [.ref o, .int (xs (7 * i + 1)), .int (xs (7 * i + 2)), .ref ou]) (rest := []) ⟨hx, hb, hml, hown, hts⟩ (c_L_culprit l hst D cA (aC s.heap.size h1 ou) z o ou σ.2.1 nC nL nV hi H (xs (7 * i + 1)) (xs (7 * i + 2)) hou8 hAn) (vx_cwSW 4 hts gL_law_L_culprit rfl rfl rfl (by decide +kernel) ⟨(Nat.le_of_ble_eq_true rfl), (Nat.le_of_ble_eq_true rfl)⟩) (xPXS hK lK.blind (fun U hU hW => hX.at hS hBA hU hW) ⟨rfl, hC, _, hO⟩) rfl rfl hl.1 rfl (lv_room (Nat.le_of_ble_eq_true rfl)) dL_law_1941 ⟨by show 40 + 10 * i + 3 ≤ 601024; omega, by show 70000 + 1200 * i + 18 ≤ 7293034; omega⟩) hS (fun q _ h => hBA q h) (fun q h => hBA q h) (fun H locs hJ z9 q9 hS => ?_)
  have hM := hM.keptA (fun q g1 g2 => q9 q g1 (fun h => h.elim (fun h => h.2.1 g2) (fun e => by have := g2.2; omega)))
  have hou9 : ou < H.size := Nat.lt_of_lt_of_le hou9 z9
  refine lv_istore (lv' := [(5, .int (kFo nC (xs (7 * i + 1)) (xs (7 * i + 2)))), (0, .ref b), (1, .ref o), (2, .ref M), (3, .ref ou), (4, .int (nI (7 * i)))]) hx hb dL_law_1944 hl (by decide) rfl (fun ls hl => ?_)
  refine lv_aload_n hx hb dL_law_1946 rfl (lv_at hl 3 rfl) ?_
  refine lv_aload_n hx hb dL_law_1947 rfl (lv_at hl 1 rfl) ?_
  refine lv_iload hx hb dL_law_1948 (lv_at hl 5 rfl) ?_
  refine lv_iconst (v := 1) hx hb dL_law_1950 (by decide) ?_
  refine xe_iadd hx hb (nI_add (7 * i) 1) dL_law_1951 ?_
  refine va_sld hx hb hXs hbl (Nat.not_le.mpr hbl) hS (vp_in_nI (show 7 * i + 1 < L by omega) (by omega)) dL_law_1952 ?_
  rw [nI_clamp (show 7 * i + 1 < 2 ^ 31 by omega)]
  refine lv_aload_n hx hb dL_law_1953 rfl (lv_at hl 1 rfl) ?_
  refine lv_iload hx hb dL_law_1954 (lv_at hl 5 rfl) ?_
  refine lv_iconst (v := 2) hx hb dL_law_1956 (by decide) ?_
  refine xe_iadd hx hb (nI_add (7 * i) 2) dL_law_1957 ?_
  refine va_sld hx hb hXs hbl (Nat.not_le.mpr hbl) hS (vp_in_nI (show 7 * i + 2 < L by omega) (by omega)) dL_law_1958 ?_
  rw [nI_clamp (show 7 * i + 2 < 2 ^ 31 by omega)]
  have hMA : ∀ q, aM h1 ou q → s.heap.size ≤ q := fun q h => Nat.le_trans h01 h.1
  refine xl_mint (va_runV (As := [.int (xs (7 * i + 1)), .int (xs (7 * i + 2))]) (rest := []) ⟨hx, hb, hml, hown, hts⟩ (c_X7_culprit l D cA (aM h1 ou) M ad σ (xs (7 * i + 1)) (xs (7 * i + 2)) nL hn.2.1 hi.2.1 nC hn.1 hi.1 (gdR.dc hi.2.2.2.2.1 nL)) (cwV 2 hts gL_law_X7_culprit rfl rfl rfl (by decide +kernel) ⟨(Nat.le_of_ble_eq_true rfl), (Nat.le_of_ble_eq_true rfl)⟩) (xPV hK hM.1 rfl hM) rfl rfl hl.1 rfl (lv_room (Nat.le_of_ble_eq_true rfl)) dL_law_1959 ⟨by show 40 + 10 * i + 3 + 0 ≤ 601024; omega, by show 70000 + 1200 * i + 18 + 0 ≤ 7293034; omega⟩) hS (fun q _ h => hMA q h) (fun q h => hMA q h) (fun y σ2 H locs hM2 ht hne heq z8 q8 hS => ?_)
  have hou9 : ou < H.size := Nat.lt_of_lt_of_le hou9 z8
  refine lv_istore (lv' := [(6, .int y), (5, .int (kFo nC (xs (7 * i + 1)) (xs (7 * i + 2)))), (0, .ref b), (1, .ref o), (2, .ref M), (3, .ref ou), (4, .int (nI (7 * i)))]) hx hb dL_law_1962 hl (by decide) rfl (fun ls hl => ?_)
  refine lv_aload_n hx hb dL_law_1964 rfl (lv_at hl 4 rfl) ?_
  refine xr_call (va_runV (As := []) (rest := []) ⟨hx, hb, hml, hown, hts⟩ (c_X7_thrown l D cA (aM h1 ou) M ad σ2) (cwV 0 hts gL_law_X7_thrown rfl rfl rfl (by decide +kernel) ⟨(Nat.le_of_ble_eq_true rfl), (Nat.le_of_ble_eq_true rfl)⟩) (xPV hK hM2.1 rfl hM2) rfl rfl hl.1 rfl (lv_room (Nat.le_of_ble_eq_true rfl)) dL_law_1965 ⟨by show 40 + 10 * i + 3 + 0 + 0 ≤ 601024; omega, by show 70000 + 1200 * i + 18 + 0 + 0 ≤ 7293034; omega⟩) ?_
  refine xe_top (y := (kFo nC (xs (7 * i + 1)) (xs (7 * i + 2)))) (show σ2.1 25 = (kFo nC (xs (7 * i + 1)) (xs (7 * i + 2))) from ht) ?_
  refine lv_iload hx hb dL_law_1968 (lv_at hl 1 rfl) ?_
  refine lv_icmp_eq (tgt := 1975) hx hb dL_law_1970 (by decide) (fun _ => ?_) (fun q => absurd rfl q)
  rcases hJ with ⟨hk, hP, hO⟩ | ⟨hk, hP, o2, hO⟩
  · have hC2 := hP.same (fun q g1 g2 => q8 q g1 (fun h => g2.2.1 h))
    have hO := x_kept hO (q8 _ (q_lt hO) (fun h => absurd h.2 (Nat.lt_irrefl _)))
    obtain ⟨hy, hp⟩ := heq hk
    refine lv_iload hx hb dL_law_1975 (lv_at hl 1 rfl) ?_
    refine lv_if_ne (tgt := 1992) hx hb dL_law_1977 (by decide) (fun q => absurd hk q) (fun _ => ?_)
    refine lv_aload_n hx hb dL_law_1980 rfl (lv_at hl 5 rfl) ?_
    refine lv_iconst (v := 0) hx hb dL_law_1981 (by decide) ?_
    refine x_lald hx hb hK hO 0 rfl (by omega) (by decide) dL_law_1982 ?_
    refine lv_iload hx hb dL_law_1983 (lv_at hl 0 rfl) ?_
    refine lv_i2l hx hb dL_law_1985 rfl ?_
    refine xe_lcmp hx hb dL_law_1986 (fun v9 hv9 => ?_)
    refine lv_if_eq (tgt := 1992) hx hb dL_law_1987 (by decide) (fun _ => ?_) (fun q => absurd (hv9.mpr (show ((akQ (akE (mS σ.2.1) (ix (xs (7 * i + 1))) none nL (ix (xs (7 * i + 2))))).toInt64) = (y).toInt64 from by subst hy; rfl)) q)
    refine lv_goto (tgt := 2489) hx hb dL_law_1992 (by decide) ?_
    refine lv_iinc (v := (nI (7 * (i + 1)))) (lv' := [(4, .int (nI (7 * (i + 1)))), (6, .int y), (5, .int (kFo nC (xs (7 * i + 1)) (xs (7 * i + 2)))), (0, .ref b), (1, .ref o), (2, .ref M), (3, .ref ou)]) hx hb dL_law_2489 hl (k := 6) rfl (ni_inc7 i) (by decide) rfl (fun ls hl => ?_)
    refine lv_goto (tgt := 23) hx hb dL_law_2492 (by decide) ?_
    exact W.widen (k := 40 + 10 * (i + 1)) (n := 70000 + 1200 * (i + 1)) (by omega) (by omega) (ih _ _ _ (li_end hou9 ⟨_, hO⟩ hM2 hp hn hC2 hi (by omega)) hS (lv_sub hl [3, 4, 5, 6, 0] rfl))
  · have hC2 := hP.same (fun q g1 g2 => q8 q g1 (fun h => g2.2.1 h))
    have hO := x_kept hO (q8 _ (q_lt hO) (fun h => absurd h.2 (Nat.lt_irrefl _)))
    have hp := hne hk
    refine lv_iload hx hb dL_law_1975 (lv_at hl 1 rfl) ?_
    refine lv_if_ne (tgt := 1992) hx hb dL_law_1977 (by decide) (fun _ => ?_) (fun q => absurd q hk)
    refine lv_goto (tgt := 2489) hx hb dL_law_1992 (by decide) ?_
    refine lv_iinc (v := (nI (7 * (i + 1)))) (lv' := [(4, .int (nI (7 * (i + 1)))), (6, .int y), (5, .int (kFo nC (xs (7 * i + 1)) (xs (7 * i + 2)))), (0, .ref b), (1, .ref o), (2, .ref M), (3, .ref ou)]) hx hb dL_law_2489 hl (k := 6) rfl (ni_inc7 i) (by decide) rfl (fun ls hl => ?_)
    refine lv_goto (tgt := 23) hx hb dL_law_2492 (by decide) ?_
    exact W.widen (k := 40 + 10 * (i + 1)) (n := 70000 + 1200 * (i + 1)) (by omega) (by omega) (ih _ _ _ (li_end hou9 ⟨_, hO⟩ hM2 hp hn hC2 hi (by omega)) hS (lv_sub hl [3, 4, 5, 6, 0] rfl))
set_option maxHeartbeats 4000000 in
set_option maxRecDepth 100000 in
theorem lw_c26 {p : Program} {l : Launch} {e : Env} {s : State} {m : MethodId} {below : List Frame} {meth : Method} {c : Code} {b L : Nat} {xs : Nat → Int32} {Q : State → Prop} (hx : p.tables.exec = Jvm.exec) (hb : c.code = cL_law) (hml : c.maxLocals = 8) (hown : s.vm.findClass RL = some m.cls) (hts : ∀ w ∈ wsL_law, w.before #[Value.ref b] s = true) {D : va_G} {cA : Nat → ClassId} (hK : xK D cA s) {z o M h1 ou : Nat} {ad : Nat → Nat} (hX : lK (fun q => s.heap.size ≤ q) z s) (hXs : va_X b L xs s s.heap) (hbl : b < s.heap.size) (hL : L ≤ 3584) (hst : l.stackTraces = false) (h01 : s.heap.size ≤ h1) (h1u : h1 ≤ ou) {i : Nat} (hi9 : 7 * i + 7 ≤ L) {H : Heap} {locs : List Loc} {ls : Array Slot} (hI : LI D cA s.heap.size h1 ou z o M ad i H) (hS : va_S (fun q => s.heap.size ≤ q) s.heap H locs) (hl : lv_has ls 8 [(0, .ref b), (1, .ref o), (2, .ref M), (3, .ref ou), (4, .int (nI (7 * i)))]) (ih : ∀ (H2 : Heap) (locs2 : List Loc) (ls2 : Array Slot), LI D cA s.heap.size h1 ou z o M ad (i + 1) H2 → va_S (fun q => s.heap.size ≤ q) s.heap H2 locs2 → lv_has ls2 8 [(0, .ref b), (1, .ref o), (2, .ref M), (3, .ref ou), (4, .int (nI (7 * (i + 1))))] → W p l e room_1 s m #[Value.ref b] below meth c H2 locs2 (40 + 10 * (i + 1)) (70000 + 1200 * (i + 1)) Q (F0 m 23 ls2 [])) : W p l e room_1 s m #[Value.ref b] below meth c H locs (40 + 10 * i) (70000 + 1200 * i) Q (F0 m 1995 ls []) := by
  obtain ⟨hou9, ⟨o1, hO⟩, σ, nC, nL, nV, hM, hn, hC, hi, hv⟩ := hI
  have hi5 : i ≤ 511 := by omega
  refine lv_aload_n hx hb dL_law_1995 rfl (lv_at hl 1 rfl) ?_
  refine lv_aload_n hx hb dL_law_1996 rfl (lv_at hl 0 rfl) ?_
  refine lv_iload hx hb dL_law_1997 (lv_at hl 4 rfl) ?_
  refine lv_iconst (v := 1) hx hb dL_law_1999 (by decide) ?_
  refine xe_iadd hx hb (nI_add (7 * i) 1) dL_law_2000 ?_
  refine va_sld hx hb hXs hbl (Nat.not_le.mpr hbl) hS (vp_in_nI (show 7 * i + 1 < L by omega) (by omega)) dL_law_2001 ?_
  rw [nI_clamp (show 7 * i + 1 < 2 ^ 31 by omega)]
  refine lv_aload_n hx hb dL_law_2002 rfl (lv_at hl 0 rfl) ?_
  refine lv_iload hx hb dL_law_2003 (lv_at hl 4 rfl) ?_
  refine lv_iconst (v := 2) hx hb dL_law_2005 (by decide) ?_
  refine xe_iadd hx hb (nI_add (7 * i) 2) dL_law_2006 ?_
  refine va_sld hx hb hXs hbl (Nat.not_le.mpr hbl) hS (vp_in_nI (show 7 * i + 2 < L by omega) (by omega)) dL_law_2007 ?_
  rw [nI_clamp (show 7 * i + 2 < 2 ^ 31 by omega)]
  refine lv_aload_n hx hb dL_law_2008 rfl (lv_at hl 3 rfl) ?_
  have hou8 : ¬ aC s.heap.size h1 ou ou := fun h => h.2.2 rfl
  have hAn : ∀ q, H.size ≤ q → aC s.heap.size h1 ou q := fun q h => ⟨by have := hS.1; omega, by omega, by omega⟩
  have hBA : ∀ q, (aC s.heap.size h1 ou q ∨ q = ou) → s.heap.size ≤ q := fun q h => h.elim (fun h => h.1) (fun e => by omega)
  refine xl_lcall (vx_runSW (As := [.ref o, .int (xs (7 * i + 1)), .int (xs (7 * i + 2)), .ref ou]) (rest := []) ⟨hx, hb, hml, hown, hts⟩ (c_L_layerOf l hst D cA (aC s.heap.size h1 ou) z o ou σ.2.1 nC nL nV hi H (xs (7 * i + 1)) (xs (7 * i + 2)) hou8 hAn) (vx_cwSW 4 hts gL_law_L_layerOf rfl rfl rfl (by decide +kernel) ⟨(Nat.le_of_ble_eq_true rfl), (Nat.le_of_ble_eq_true rfl)⟩) (xPXS hK lK.blind (fun U hU hW => hX.at hS hBA hU hW) ⟨rfl, hC, _, hO⟩) rfl rfl hl.1 rfl (lv_room (Nat.le_of_ble_eq_true rfl)) dL_law_2009 ⟨by show 40 + 10 * i + 3 ≤ 601024; omega, by show 70000 + 1200 * i + 18 ≤ 7293034; omega⟩) hS (fun q _ h => hBA q h) (fun q h => hBA q h) (fun H locs hJ z9 q9 hS => ?_)
  have hM := hM.keptA (fun q g1 g2 => q9 q g1 (fun h => h.elim (fun h => h.2.1 g2) (fun e => by have := g2.2; omega)))
  have hou9 : ou < H.size := Nat.lt_of_lt_of_le hou9 z9
  refine lv_istore (lv' := [(5, .int (kFo nC (xs (7 * i + 1)) (xs (7 * i + 2)))), (0, .ref b), (1, .ref o), (2, .ref M), (3, .ref ou), (4, .int (nI (7 * i)))]) hx hb dL_law_2012 hl (by decide) rfl (fun ls hl => ?_)
  refine lv_aload_n hx hb dL_law_2014 rfl (lv_at hl 3 rfl) ?_
  refine lv_aload_n hx hb dL_law_2015 rfl (lv_at hl 1 rfl) ?_
  refine lv_iload hx hb dL_law_2016 (lv_at hl 5 rfl) ?_
  refine lv_iconst (v := 1) hx hb dL_law_2018 (by decide) ?_
  refine xe_iadd hx hb (nI_add (7 * i) 1) dL_law_2019 ?_
  refine va_sld hx hb hXs hbl (Nat.not_le.mpr hbl) hS (vp_in_nI (show 7 * i + 1 < L by omega) (by omega)) dL_law_2020 ?_
  rw [nI_clamp (show 7 * i + 1 < 2 ^ 31 by omega)]
  refine lv_aload_n hx hb dL_law_2021 rfl (lv_at hl 1 rfl) ?_
  refine lv_iload hx hb dL_law_2022 (lv_at hl 5 rfl) ?_
  refine lv_iconst (v := 2) hx hb dL_law_2024 (by decide) ?_
  refine xe_iadd hx hb (nI_add (7 * i) 2) dL_law_2025 ?_
  refine va_sld hx hb hXs hbl (Nat.not_le.mpr hbl) hS (vp_in_nI (show 7 * i + 2 < L by omega) (by omega)) dL_law_2026 ?_
  rw [nI_clamp (show 7 * i + 2 < 2 ^ 31 by omega)]
  have hMA : ∀ q, aM h1 ou q → s.heap.size ≤ q := fun q h => Nat.le_trans h01 h.1
  refine xl_mint (va_runV (As := [.int (xs (7 * i + 1)), .int (xs (7 * i + 2))]) (rest := []) ⟨hx, hb, hml, hown, hts⟩ (c_X7_layerOf l D cA (aM h1 ou) M ad σ (xs (7 * i + 1)) (xs (7 * i + 2)) nL hn.2.1 hi.2.1 nC hn.1 hi.1 (gdR.dc hi.2.2.2.2.1 nL)) (cwV 2 hts gL_law_X7_layerOf rfl rfl rfl (by decide +kernel) ⟨(Nat.le_of_ble_eq_true rfl), (Nat.le_of_ble_eq_true rfl)⟩) (xPV hK hM.1 rfl hM) rfl rfl hl.1 rfl (lv_room (Nat.le_of_ble_eq_true rfl)) dL_law_2027 ⟨by show 40 + 10 * i + 3 + 0 ≤ 601024; omega, by show 70000 + 1200 * i + 18 + 0 ≤ 7293034; omega⟩) hS (fun q _ h => hMA q h) (fun q h => hMA q h) (fun y σ2 H locs hM2 ht hne heq z8 q8 hS => ?_)
  have hou9 : ou < H.size := Nat.lt_of_lt_of_le hou9 z8
  refine lv_istore (lv' := [(6, .int y), (5, .int (kFo nC (xs (7 * i + 1)) (xs (7 * i + 2)))), (0, .ref b), (1, .ref o), (2, .ref M), (3, .ref ou), (4, .int (nI (7 * i)))]) hx hb dL_law_2030 hl (by decide) rfl (fun ls hl => ?_)
  refine lv_aload_n hx hb dL_law_2032 rfl (lv_at hl 4 rfl) ?_
  refine xr_call (va_runV (As := []) (rest := []) ⟨hx, hb, hml, hown, hts⟩ (c_X7_thrown l D cA (aM h1 ou) M ad σ2) (cwV 0 hts gL_law_X7_thrown rfl rfl rfl (by decide +kernel) ⟨(Nat.le_of_ble_eq_true rfl), (Nat.le_of_ble_eq_true rfl)⟩) (xPV hK hM2.1 rfl hM2) rfl rfl hl.1 rfl (lv_room (Nat.le_of_ble_eq_true rfl)) dL_law_2033 ⟨by show 40 + 10 * i + 3 + 0 + 0 ≤ 601024; omega, by show 70000 + 1200 * i + 18 + 0 + 0 ≤ 7293034; omega⟩) ?_
  refine xe_top (y := (kFo nC (xs (7 * i + 1)) (xs (7 * i + 2)))) (show σ2.1 25 = (kFo nC (xs (7 * i + 1)) (xs (7 * i + 2))) from ht) ?_
  refine lv_iload hx hb dL_law_2036 (lv_at hl 1 rfl) ?_
  refine lv_icmp_eq (tgt := 2043) hx hb dL_law_2038 (by decide) (fun _ => ?_) (fun q => absurd rfl q)
  rcases hJ with ⟨hk, hP, hO⟩ | ⟨hk, hP, o2, hO⟩
  · have hC2 := hP.same (fun q g1 g2 => q8 q g1 (fun h => g2.2.1 h))
    have hO := x_kept hO (q8 _ (q_lt hO) (fun h => absurd h.2 (Nat.lt_irrefl _)))
    obtain ⟨hy, hp⟩ := heq hk
    refine lv_iload hx hb dL_law_2043 (lv_at hl 1 rfl) ?_
    refine lv_if_ne (tgt := 2060) hx hb dL_law_2045 (by decide) (fun q => absurd hk q) (fun _ => ?_)
    refine lv_aload_n hx hb dL_law_2048 rfl (lv_at hl 5 rfl) ?_
    refine lv_iconst (v := 0) hx hb dL_law_2049 (by decide) ?_
    refine x_lald hx hb hK hO 0 rfl (by omega) (by decide) dL_law_2050 ?_
    refine lv_iload hx hb dL_law_2051 (lv_at hl 0 rfl) ?_
    refine lv_i2l hx hb dL_law_2053 rfl ?_
    refine xe_lcmp hx hb dL_law_2054 (fun v9 hv9 => ?_)
    refine lv_if_eq (tgt := 2060) hx hb dL_law_2055 (by decide) (fun _ => ?_) (fun q => absurd (hv9.mpr (show ((loI (decO σ.2.1 (ix (xs (7 * i + 1))) (ix (xs (7 * i + 2))) none nL)).toInt64) = (y).toInt64 from by subst hy; rfl)) q)
    refine lv_goto (tgt := 2489) hx hb dL_law_2060 (by decide) ?_
    refine lv_iinc (v := (nI (7 * (i + 1)))) (lv' := [(4, .int (nI (7 * (i + 1)))), (6, .int y), (5, .int (kFo nC (xs (7 * i + 1)) (xs (7 * i + 2)))), (0, .ref b), (1, .ref o), (2, .ref M), (3, .ref ou)]) hx hb dL_law_2489 hl (k := 6) rfl (ni_inc7 i) (by decide) rfl (fun ls hl => ?_)
    refine lv_goto (tgt := 23) hx hb dL_law_2492 (by decide) ?_
    exact W.widen (k := 40 + 10 * (i + 1)) (n := 70000 + 1200 * (i + 1)) (by omega) (by omega) (ih _ _ _ (li_end hou9 ⟨_, hO⟩ hM2 hp hn hC2 hi (by omega)) hS (lv_sub hl [3, 4, 5, 6, 0] rfl))
  · have hC2 := hP.same (fun q g1 g2 => q8 q g1 (fun h => g2.2.1 h))
    have hO := x_kept hO (q8 _ (q_lt hO) (fun h => absurd h.2 (Nat.lt_irrefl _)))
    have hp := hne hk
    refine lv_iload hx hb dL_law_2043 (lv_at hl 1 rfl) ?_
    refine lv_if_ne (tgt := 2060) hx hb dL_law_2045 (by decide) (fun _ => ?_) (fun q => absurd q hk)
    refine lv_goto (tgt := 2489) hx hb dL_law_2060 (by decide) ?_
    refine lv_iinc (v := (nI (7 * (i + 1)))) (lv' := [(4, .int (nI (7 * (i + 1)))), (6, .int y), (5, .int (kFo nC (xs (7 * i + 1)) (xs (7 * i + 2)))), (0, .ref b), (1, .ref o), (2, .ref M), (3, .ref ou)]) hx hb dL_law_2489 hl (k := 6) rfl (ni_inc7 i) (by decide) rfl (fun ls hl => ?_)
    refine lv_goto (tgt := 23) hx hb dL_law_2492 (by decide) ?_
    exact W.widen (k := 40 + 10 * (i + 1)) (n := 70000 + 1200 * (i + 1)) (by omega) (by omega) (ih _ _ _ (li_end hou9 ⟨_, hO⟩ hM2 hp hn hC2 hi (by omega)) hS (lv_sub hl [3, 4, 5, 6, 0] rfl))
