set_option maxHeartbeats 4000000 in
set_option maxRecDepth 100000 in
theorem lw_c27 {p : Program} {l : Launch} {e : Env} {s : State} {m : MethodId} {below : List Frame} {meth : Method} {c : Code} {b L : Nat} {xs : Nat → Int32} {Q : State → Prop} (hx : p.tables.exec = Jvm.exec) (hb : c.code = cL_law) (hml : c.maxLocals = 8) (hown : s.vm.findClass RL = some m.cls) (hts : ∀ w ∈ wsL_law, w.before #[Value.ref b] s = true) {D : va_G} {cA : Nat → ClassId} (hK : xK D cA s) {z o M h1 ou : Nat} {ad : Nat → Nat} (hX : lK (fun q => s.heap.size ≤ q) z s) (hXs : va_X b L xs s s.heap) (hbl : b < s.heap.size) (hL : L ≤ 3584) (hst : l.stackTraces = false) (h01 : s.heap.size ≤ h1) (h1u : h1 ≤ ou) {i : Nat} (hi9 : 7 * i + 7 ≤ L) {H : Heap} {locs : List Loc} {ls : Array Slot} (hI : LI D cA s.heap.size h1 ou z o M ad i H) (hS : va_S (fun q => s.heap.size ≤ q) s.heap H locs) (hl : lv_has ls 8 [(0, .ref b), (1, .ref o), (2, .ref M), (3, .ref ou), (4, .int (nI (7 * i)))]) (ih : ∀ (H2 : Heap) (locs2 : List Loc) (ls2 : Array Slot), LI D cA s.heap.size h1 ou z o M ad (i + 1) H2 → va_S (fun q => s.heap.size ≤ q) s.heap H2 locs2 → lv_has ls2 8 [(0, .ref b), (1, .ref o), (2, .ref M), (3, .ref ou), (4, .int (nI (7 * (i + 1))))] → W p l e room_1 s m #[Value.ref b] below meth c H2 locs2 (40 + 10 * (i + 1)) (70000 + 1200 * (i + 1)) Q (F0 m 23 ls2 [])) : W p l e room_1 s m #[Value.ref b] below meth c H locs (40 + 10 * i) (70000 + 1200 * i) Q (F0 m 2063 ls []) := by
  obtain ⟨hou9, ⟨o1, hO⟩, σ, nC, nL, nV, hM, hn, hC, hi, hv⟩ := hI
  have hi5 : i ≤ 511 := by omega
  refine lv_aload_n hx hb dL_law_2063 rfl (lv_at hl 1 rfl) ?_
  refine lv_aload_n hx hb dL_law_2064 rfl (lv_at hl 0 rfl) ?_
  refine lv_iload hx hb dL_law_2065 (lv_at hl 4 rfl) ?_
  refine lv_iconst (v := 1) hx hb dL_law_2067 (by decide) ?_
  refine xe_iadd hx hb (nI_add (7 * i) 1) dL_law_2068 ?_
  refine va_sld hx hb hXs hbl (Nat.not_le.mpr hbl) hS (vp_in_nI (show 7 * i + 1 < L by omega) (by omega)) dL_law_2069 ?_
  rw [nI_clamp (show 7 * i + 1 < 2 ^ 31 by omega)]
  refine lv_aload_n hx hb dL_law_2070 rfl (lv_at hl 0 rfl) ?_
  refine lv_iload hx hb dL_law_2071 (lv_at hl 4 rfl) ?_
  refine lv_iconst (v := 2) hx hb dL_law_2073 (by decide) ?_
  refine xe_iadd hx hb (nI_add (7 * i) 2) dL_law_2074 ?_
  refine va_sld hx hb hXs hbl (Nat.not_le.mpr hbl) hS (vp_in_nI (show 7 * i + 2 < L by omega) (by omega)) dL_law_2075 ?_
  rw [nI_clamp (show 7 * i + 2 < 2 ^ 31 by omega)]
  refine lv_aload_n hx hb dL_law_2076 rfl (lv_at hl 3 rfl) ?_
  have hou8 : ¬ aC s.heap.size h1 ou ou := fun h => h.2.2 rfl
  have hAn : ∀ q, H.size ≤ q → aC s.heap.size h1 ou q := fun q h => ⟨by have := hS.1; omega, by omega, by omega⟩
  have hBA : ∀ q, (aC s.heap.size h1 ou q ∨ q = ou) → s.heap.size ≤ q := fun q h => h.elim (fun h => h.1) (fun e => by omega)
  refine xl_lcall (vx_runSW (As := [.ref o, .int (xs (7 * i + 1)), .int (xs (7 * i + 2)), .ref ou]) (rest := []) ⟨hx, hb, hml, hown, hts⟩ (c_L_isNew l hst D cA (aC s.heap.size h1 ou) z o ou σ.2.1 nC nL nV hi H (xs (7 * i + 1)) (xs (7 * i + 2)) hou8 hAn) (vx_cwSW 4 hts gL_law_L_isNew rfl rfl rfl (by decide +kernel) ⟨(Nat.le_of_ble_eq_true rfl), (Nat.le_of_ble_eq_true rfl)⟩) (xPXS hK lK.blind (fun U hU hW => hX.at hS hBA hU hW) ⟨rfl, hC, _, hO⟩) rfl rfl hl.1 rfl (lv_room (Nat.le_of_ble_eq_true rfl)) dL_law_2077 ⟨by show 40 + 10 * i + 3 ≤ 601024; omega, by show 70000 + 1200 * i + 18 ≤ 7293034; omega⟩) hS (fun q _ h => hBA q h) (fun q h => hBA q h) (fun H locs hJ z9 q9 hS => ?_)
  have hM := hM.keptA (fun q g1 g2 => q9 q g1 (fun h => h.elim (fun h => h.2.1 g2) (fun e => by have := g2.2; omega)))
  have hou9 : ou < H.size := Nat.lt_of_lt_of_le hou9 z9
  refine lv_istore (lv' := [(5, .int (kFo nC (xs (7 * i + 1)) (xs (7 * i + 2)))), (0, .ref b), (1, .ref o), (2, .ref M), (3, .ref ou), (4, .int (nI (7 * i)))]) hx hb dL_law_2080 hl (by decide) rfl (fun ls hl => ?_)
  refine lv_aload_n hx hb dL_law_2082 rfl (lv_at hl 3 rfl) ?_
  refine lv_aload_n hx hb dL_law_2083 rfl (lv_at hl 1 rfl) ?_
  refine lv_iload hx hb dL_law_2084 (lv_at hl 5 rfl) ?_
  refine lv_iconst (v := 1) hx hb dL_law_2086 (by decide) ?_
  refine xe_iadd hx hb (nI_add (7 * i) 1) dL_law_2087 ?_
  refine va_sld hx hb hXs hbl (Nat.not_le.mpr hbl) hS (vp_in_nI (show 7 * i + 1 < L by omega) (by omega)) dL_law_2088 ?_
  rw [nI_clamp (show 7 * i + 1 < 2 ^ 31 by omega)]
  refine lv_aload_n hx hb dL_law_2089 rfl (lv_at hl 1 rfl) ?_
  refine lv_iload hx hb dL_law_2090 (lv_at hl 5 rfl) ?_
  refine lv_iconst (v := 2) hx hb dL_law_2092 (by decide) ?_
  refine xe_iadd hx hb (nI_add (7 * i) 2) dL_law_2093 ?_
  refine va_sld hx hb hXs hbl (Nat.not_le.mpr hbl) hS (vp_in_nI (show 7 * i + 2 < L by omega) (by omega)) dL_law_2094 ?_
  rw [nI_clamp (show 7 * i + 2 < 2 ^ 31 by omega)]
  have hMA : ∀ q, aM h1 ou q → s.heap.size ≤ q := fun q h => Nat.le_trans h01 h.1
  refine xl_mint (va_runV (As := [.int (xs (7 * i + 1)), .int (xs (7 * i + 2))]) (rest := []) ⟨hx, hb, hml, hown, hts⟩ (c_X7_isNew l D cA (aM h1 ou) M ad σ (xs (7 * i + 1)) (xs (7 * i + 2)) nL hn.2.1 hi.2.1 nC hn.1 hi.1 (gdR.dc hi.2.2.2.2.1 nL)) (cwV 2 hts gL_law_X7_isNew rfl rfl rfl (by decide +kernel) ⟨(Nat.le_of_ble_eq_true rfl), (Nat.le_of_ble_eq_true rfl)⟩) (xPV hK hM.1 rfl hM) rfl rfl hl.1 rfl (lv_room (Nat.le_of_ble_eq_true rfl)) dL_law_2095 ⟨by show 40 + 10 * i + 3 + 0 ≤ 601024; omega, by show 70000 + 1200 * i + 18 + 0 ≤ 7293034; omega⟩) hS (fun q _ h => hMA q h) (fun q h => hMA q h) (fun y σ2 H locs hM2 ht hne heq z8 q8 hS => ?_)
  have hou9 : ou < H.size := Nat.lt_of_lt_of_le hou9 z8
  refine lv_istore (lv' := [(6, .int y), (5, .int (kFo nC (xs (7 * i + 1)) (xs (7 * i + 2)))), (0, .ref b), (1, .ref o), (2, .ref M), (3, .ref ou), (4, .int (nI (7 * i)))]) hx hb dL_law_2098 hl (by decide) rfl (fun ls hl => ?_)
  refine lv_aload_n hx hb dL_law_2100 rfl (lv_at hl 4 rfl) ?_
  refine xr_call (va_runV (As := []) (rest := []) ⟨hx, hb, hml, hown, hts⟩ (c_X7_thrown l D cA (aM h1 ou) M ad σ2) (cwV 0 hts gL_law_X7_thrown rfl rfl rfl (by decide +kernel) ⟨(Nat.le_of_ble_eq_true rfl), (Nat.le_of_ble_eq_true rfl)⟩) (xPV hK hM2.1 rfl hM2) rfl rfl hl.1 rfl (lv_room (Nat.le_of_ble_eq_true rfl)) dL_law_2101 ⟨by show 40 + 10 * i + 3 + 0 + 0 ≤ 601024; omega, by show 70000 + 1200 * i + 18 + 0 + 0 ≤ 7293034; omega⟩) ?_
  refine xe_top (y := (kFo nC (xs (7 * i + 1)) (xs (7 * i + 2)))) (show σ2.1 25 = (kFo nC (xs (7 * i + 1)) (xs (7 * i + 2))) from ht) ?_
  refine lv_iload hx hb dL_law_2104 (lv_at hl 1 rfl) ?_
  refine lv_icmp_eq (tgt := 2111) hx hb dL_law_2106 (by decide) (fun _ => ?_) (fun q => absurd rfl q)
  rcases hJ with ⟨hk, hP, hO⟩ | ⟨hk, hP, o2, hO⟩
  · have hC2 := hP.same (fun q g1 g2 => q8 q g1 (fun h => g2.2.1 h))
    have hO := x_kept hO (q8 _ (q_lt hO) (fun h => absurd h.2 (Nat.lt_irrefl _)))
    obtain ⟨hy, hp⟩ := heq hk
    refine lv_iload hx hb dL_law_2111 (lv_at hl 1 rfl) ?_
    refine lv_if_ne (tgt := 2135) hx hb dL_law_2113 (by decide) (fun q => absurd hk q) (fun _ => ?_)
    refine lv_aload_n hx hb dL_law_2116 rfl (lv_at hl 5 rfl) ?_
    refine lv_iconst (v := 0) hx hb dL_law_2117 (by decide) ?_
    refine x_lald hx hb hK hO 0 rfl (by omega) (by decide) dL_law_2118 ?_
    refine lv_iload hx hb dL_law_2119 (lv_at hl 0 rfl) ?_
    refine xe_top (y := bI (nwF σ.2.1 (ix (xs (7 * i + 1))) (ix (xs (7 * i + 2))) nL)) hy ?_
    refine xb_eq (tgt := 2128) hx hb dL_law_2121 (by decide) (fun hbc => ?_) (fun hbc => ?_)
    · refine lv_lconst (v := 0) hx hb dL_law_2128 (by decide) ?_
      refine xe_lcmp hx hb dL_law_2129 (fun v9 hv9 => ?_)
      refine lv_if_eq (tgt := 2135) hx hb dL_law_2130 (by decide) (fun _ => ?_) (fun q => absurd (hv9.mpr (show bL (nwF σ.2.1 (ix (xs (7 * i + 1))) (ix (xs (7 * i + 2))) nL) = 0 from by unfold bL; rw [hbc]; rfl)) q)
      refine lv_goto (tgt := 2489) hx hb dL_law_2135 (by decide) ?_
      refine lv_iinc (v := (nI (7 * (i + 1)))) (lv' := [(4, .int (nI (7 * (i + 1)))), (6, .int y), (5, .int (kFo nC (xs (7 * i + 1)) (xs (7 * i + 2)))), (0, .ref b), (1, .ref o), (2, .ref M), (3, .ref ou)]) hx hb dL_law_2489 hl (k := 6) rfl (ni_inc7 i) (by decide) rfl (fun ls hl => ?_)
      refine lv_goto (tgt := 23) hx hb dL_law_2492 (by decide) ?_
      exact W.widen (k := 40 + 10 * (i + 1)) (n := 70000 + 1200 * (i + 1)) (by omega) (by omega) (ih _ _ _ (li_end hou9 ⟨_, hO⟩ hM2 hp hn hC2 hi (by omega)) hS (lv_sub hl [3, 4, 5, 6, 0] rfl))
    · refine lv_lconst (v := 1) hx hb dL_law_2124 (by decide) ?_
      refine lv_goto (tgt := 2129) hx hb dL_law_2125 (by decide) ?_
      refine xe_lcmp hx hb dL_law_2129 (fun v9 hv9 => ?_)
      refine lv_if_eq (tgt := 2135) hx hb dL_law_2130 (by decide) (fun _ => ?_) (fun q => absurd (hv9.mpr (show bL (nwF σ.2.1 (ix (xs (7 * i + 1))) (ix (xs (7 * i + 2))) nL) = 1 from by unfold bL; rw [hbc]; rfl)) q)
      refine lv_goto (tgt := 2489) hx hb dL_law_2135 (by decide) ?_
      refine lv_iinc (v := (nI (7 * (i + 1)))) (lv' := [(4, .int (nI (7 * (i + 1)))), (6, .int y), (5, .int (kFo nC (xs (7 * i + 1)) (xs (7 * i + 2)))), (0, .ref b), (1, .ref o), (2, .ref M), (3, .ref ou)]) hx hb dL_law_2489 hl (k := 6) rfl (ni_inc7 i) (by decide) rfl (fun ls hl => ?_)
      refine lv_goto (tgt := 23) hx hb dL_law_2492 (by decide) ?_
      exact W.widen (k := 40 + 10 * (i + 1)) (n := 70000 + 1200 * (i + 1)) (by omega) (by omega) (ih _ _ _ (li_end hou9 ⟨_, hO⟩ hM2 hp hn hC2 hi (by omega)) hS (lv_sub hl [3, 4, 5, 6, 0] rfl))
  · have hC2 := hP.same (fun q g1 g2 => q8 q g1 (fun h => g2.2.1 h))
    have hO := x_kept hO (q8 _ (q_lt hO) (fun h => absurd h.2 (Nat.lt_irrefl _)))
    have hp := hne hk
    refine lv_iload hx hb dL_law_2111 (lv_at hl 1 rfl) ?_
    refine lv_if_ne (tgt := 2135) hx hb dL_law_2113 (by decide) (fun _ => ?_) (fun q => absurd q hk)
    refine lv_goto (tgt := 2489) hx hb dL_law_2135 (by decide) ?_
    refine lv_iinc (v := (nI (7 * (i + 1)))) (lv' := [(4, .int (nI (7 * (i + 1)))), (6, .int y), (5, .int (kFo nC (xs (7 * i + 1)) (xs (7 * i + 2)))), (0, .ref b), (1, .ref o), (2, .ref M), (3, .ref ou)]) hx hb dL_law_2489 hl (k := 6) rfl (ni_inc7 i) (by decide) rfl (fun ls hl => ?_)
    refine lv_goto (tgt := 23) hx hb dL_law_2492 (by decide) ?_
    exact W.widen (k := 40 + 10 * (i + 1)) (n := 70000 + 1200 * (i + 1)) (by omega) (by omega) (ih _ _ _ (li_end hou9 ⟨_, hO⟩ hM2 hp hn hC2 hi (by omega)) hS (lv_sub hl [3, 4, 5, 6, 0] rfl))
set_option maxHeartbeats 4000000 in
set_option maxRecDepth 100000 in
theorem lw_c28 {p : Program} {l : Launch} {e : Env} {s : State} {m : MethodId} {below : List Frame} {meth : Method} {c : Code} {b L : Nat} {xs : Nat → Int32} {Q : State → Prop} (hx : p.tables.exec = Jvm.exec) (hb : c.code = cL_law) (hml : c.maxLocals = 8) (hown : s.vm.findClass RL = some m.cls) (hts : ∀ w ∈ wsL_law, w.before #[Value.ref b] s = true) {D : va_G} {cA : Nat → ClassId} (hK : xK D cA s) {z o M h1 ou : Nat} {ad : Nat → Nat} (hX : lK (fun q => s.heap.size ≤ q) z s) (hXs : va_X b L xs s s.heap) (hbl : b < s.heap.size) (hL : L ≤ 3584) (hst : l.stackTraces = false) (h01 : s.heap.size ≤ h1) (h1u : h1 ≤ ou) {i : Nat} (hi9 : 7 * i + 7 ≤ L) {H : Heap} {locs : List Loc} {ls : Array Slot} (hI : LI D cA s.heap.size h1 ou z o M ad i H) (hS : va_S (fun q => s.heap.size ≤ q) s.heap H locs) (hl : lv_has ls 8 [(0, .ref b), (1, .ref o), (2, .ref M), (3, .ref ou), (4, .int (nI (7 * i)))]) (ih : ∀ (H2 : Heap) (locs2 : List Loc) (ls2 : Array Slot), LI D cA s.heap.size h1 ou z o M ad (i + 1) H2 → va_S (fun q => s.heap.size ≤ q) s.heap H2 locs2 → lv_has ls2 8 [(0, .ref b), (1, .ref o), (2, .ref M), (3, .ref ou), (4, .int (nI (7 * (i + 1))))] → W p l e room_1 s m #[Value.ref b] below meth c H2 locs2 (40 + 10 * (i + 1)) (70000 + 1200 * (i + 1)) Q (F0 m 23 ls2 [])) : W p l e room_1 s m #[Value.ref b] below meth c H locs (40 + 10 * i) (70000 + 1200 * i) Q (F0 m 2138 ls []) := by
  obtain ⟨hou9, ⟨o1, hO⟩, σ, nC, nL, nV, hM, hn, hC, hi, hv⟩ := hI
  have hi5 : i ≤ 511 := by omega
  refine lv_aload_n hx hb dL_law_2138 rfl (lv_at hl 1 rfl) ?_
  refine lv_aload_n hx hb dL_law_2139 rfl (lv_at hl 0 rfl) ?_
  refine lv_iload hx hb dL_law_2140 (lv_at hl 4 rfl) ?_
  refine lv_iconst (v := 1) hx hb dL_law_2142 (by decide) ?_
  refine xe_iadd hx hb (nI_add (7 * i) 1) dL_law_2143 ?_
  refine va_sld hx hb hXs hbl (Nat.not_le.mpr hbl) hS (vp_in_nI (show 7 * i + 1 < L by omega) (by omega)) dL_law_2144 ?_
  rw [nI_clamp (show 7 * i + 1 < 2 ^ 31 by omega)]
  refine lv_aload_n hx hb dL_law_2145 rfl (lv_at hl 0 rfl) ?_
  refine lv_iload hx hb dL_law_2146 (lv_at hl 4 rfl) ?_
  refine lv_iconst (v := 2) hx hb dL_law_2148 (by decide) ?_
  refine xe_iadd hx hb (nI_add (7 * i) 2) dL_law_2149 ?_
  refine va_sld hx hb hXs hbl (Nat.not_le.mpr hbl) hS (vp_in_nI (show 7 * i + 2 < L by omega) (by omega)) dL_law_2150 ?_
  rw [nI_clamp (show 7 * i + 2 < 2 ^ 31 by omega)]
  refine lv_aload_n hx hb dL_law_2151 rfl (lv_at hl 3 rfl) ?_
  have hou8 : ¬ aC s.heap.size h1 ou ou := fun h => h.2.2 rfl
  have hAn : ∀ q, H.size ≤ q → aC s.heap.size h1 ou q := fun q h => ⟨by have := hS.1; omega, by omega, by omega⟩
  have hBA : ∀ q, (aC s.heap.size h1 ou q ∨ q = ou) → s.heap.size ≤ q := fun q h => h.elim (fun h => h.1) (fun e => by omega)
  refine xl_lcall (vx_runSW (As := [.ref o, .int (xs (7 * i + 1)), .int (xs (7 * i + 2)), .ref ou]) (rest := []) ⟨hx, hb, hml, hown, hts⟩ (c_L_uses l hst D cA (aC s.heap.size h1 ou) z o ou σ.2.1 nC nL nV hi H (xs (7 * i + 1)) (xs (7 * i + 2)) hou8 hAn) (vx_cwSW 4 hts gL_law_L_uses rfl rfl rfl (by decide +kernel) ⟨(Nat.le_of_ble_eq_true rfl), (Nat.le_of_ble_eq_true rfl)⟩) (xPXS hK lK.blind (fun U hU hW => hX.at hS hBA hU hW) ⟨rfl, hC, _, hO⟩) rfl rfl hl.1 rfl (lv_room (Nat.le_of_ble_eq_true rfl)) dL_law_2152 ⟨by show 40 + 10 * i + 3 ≤ 601024; omega, by show 70000 + 1200 * i + 18 ≤ 7293034; omega⟩) hS (fun q _ h => hBA q h) (fun q h => hBA q h) (fun H locs hJ z9 q9 hS => ?_)
  have hM := hM.keptA (fun q g1 g2 => q9 q g1 (fun h => h.elim (fun h => h.2.1 g2) (fun e => by have := g2.2; omega)))
  have hou9 : ou < H.size := Nat.lt_of_lt_of_le hou9 z9
  refine lv_istore (lv' := [(5, .int (kFo nC (xs (7 * i + 1)) (xs (7 * i + 2)))), (0, .ref b), (1, .ref o), (2, .ref M), (3, .ref ou), (4, .int (nI (7 * i)))]) hx hb dL_law_2155 hl (by decide) rfl (fun ls hl => ?_)
  refine lv_aload_n hx hb dL_law_2157 rfl (lv_at hl 3 rfl) ?_
  refine lv_aload_n hx hb dL_law_2158 rfl (lv_at hl 1 rfl) ?_
  refine lv_iload hx hb dL_law_2159 (lv_at hl 5 rfl) ?_
  refine lv_iconst (v := 1) hx hb dL_law_2161 (by decide) ?_
  refine xe_iadd hx hb (nI_add (7 * i) 1) dL_law_2162 ?_
  refine va_sld hx hb hXs hbl (Nat.not_le.mpr hbl) hS (vp_in_nI (show 7 * i + 1 < L by omega) (by omega)) dL_law_2163 ?_
  rw [nI_clamp (show 7 * i + 1 < 2 ^ 31 by omega)]
  refine lv_aload_n hx hb dL_law_2164 rfl (lv_at hl 1 rfl) ?_
  refine lv_iload hx hb dL_law_2165 (lv_at hl 5 rfl) ?_
  refine lv_iconst (v := 2) hx hb dL_law_2167 (by decide) ?_
  refine xe_iadd hx hb (nI_add (7 * i) 2) dL_law_2168 ?_
  refine va_sld hx hb hXs hbl (Nat.not_le.mpr hbl) hS (vp_in_nI (show 7 * i + 2 < L by omega) (by omega)) dL_law_2169 ?_
  rw [nI_clamp (show 7 * i + 2 < 2 ^ 31 by omega)]
  have hMA : ∀ q, aM h1 ou q → s.heap.size ≤ q := fun q h => Nat.le_trans h01 h.1
  refine xl_mint (va_runV (As := [.int (xs (7 * i + 1)), .int (xs (7 * i + 2))]) (rest := []) ⟨hx, hb, hml, hown, hts⟩ (c_X7_uses l D cA (aM h1 ou) M ad σ (xs (7 * i + 1)) (xs (7 * i + 2)) nL hn.2.1 hi.2.1 nC hn.1 hi.1 (gdR.dc hi.2.2.2.2.1 nL)) (cwV 2 hts gL_law_X7_uses rfl rfl rfl (by decide +kernel) ⟨(Nat.le_of_ble_eq_true rfl), (Nat.le_of_ble_eq_true rfl)⟩) (xPV hK hM.1 rfl hM) rfl rfl hl.1 rfl (lv_room (Nat.le_of_ble_eq_true rfl)) dL_law_2170 ⟨by show 40 + 10 * i + 3 + 0 ≤ 601024; omega, by show 70000 + 1200 * i + 18 + 0 ≤ 7293034; omega⟩) hS (fun q _ h => hMA q h) (fun q h => hMA q h) (fun y σ2 H locs hM2 ht hne heq z8 q8 hS => ?_)
  have hou9 : ou < H.size := Nat.lt_of_lt_of_le hou9 z8
  refine lv_istore (lv' := [(6, .int y), (5, .int (kFo nC (xs (7 * i + 1)) (xs (7 * i + 2)))), (0, .ref b), (1, .ref o), (2, .ref M), (3, .ref ou), (4, .int (nI (7 * i)))]) hx hb dL_law_2173 hl (by decide) rfl (fun ls hl => ?_)
  refine lv_aload_n hx hb dL_law_2175 rfl (lv_at hl 4 rfl) ?_
  refine xr_call (va_runV (As := []) (rest := []) ⟨hx, hb, hml, hown, hts⟩ (c_X7_thrown l D cA (aM h1 ou) M ad σ2) (cwV 0 hts gL_law_X7_thrown rfl rfl rfl (by decide +kernel) ⟨(Nat.le_of_ble_eq_true rfl), (Nat.le_of_ble_eq_true rfl)⟩) (xPV hK hM2.1 rfl hM2) rfl rfl hl.1 rfl (lv_room (Nat.le_of_ble_eq_true rfl)) dL_law_2176 ⟨by show 40 + 10 * i + 3 + 0 + 0 ≤ 601024; omega, by show 70000 + 1200 * i + 18 + 0 + 0 ≤ 7293034; omega⟩) ?_
  refine xe_top (y := (kFo nC (xs (7 * i + 1)) (xs (7 * i + 2)))) (show σ2.1 25 = (kFo nC (xs (7 * i + 1)) (xs (7 * i + 2))) from ht) ?_
  refine lv_iload hx hb dL_law_2179 (lv_at hl 1 rfl) ?_
  refine lv_icmp_eq (tgt := 2186) hx hb dL_law_2181 (by decide) (fun _ => ?_) (fun q => absurd rfl q)
  rcases hJ with ⟨hk, hP, hO⟩ | ⟨hk, hP, o2, hO⟩
  · have hC2 := hP.same (fun q g1 g2 => q8 q g1 (fun h => g2.2.1 h))
    have hO := x_kept hO (q8 _ (q_lt hO) (fun h => absurd h.2 (Nat.lt_irrefl _)))
    obtain ⟨hy, hp⟩ := heq hk
    refine lv_iload hx hb dL_law_2186 (lv_at hl 1 rfl) ?_
    refine lv_if_ne (tgt := 2203) hx hb dL_law_2188 (by decide) (fun q => absurd hk q) (fun _ => ?_)
    refine lv_aload_n hx hb dL_law_2191 rfl (lv_at hl 5 rfl) ?_
    refine lv_iconst (v := 0) hx hb dL_law_2192 (by decide) ?_
    refine x_lald hx hb hK hO 0 rfl (by omega) (by decide) dL_law_2193 ?_
    refine lv_iload hx hb dL_law_2194 (lv_at hl 0 rfl) ?_
    refine lv_i2l hx hb dL_law_2196 rfl ?_
    refine xe_lcmp hx hb dL_law_2197 (fun v9 hv9 => ?_)
    refine lv_if_eq (tgt := 2203) hx hb dL_law_2198 (by decide) (fun _ => ?_) (fun q => absurd (hv9.mpr (show (((akE (mS σ.2.1) (ix (xs (7 * i + 1))) none nL (ix (xs (7 * i + 2)))).1.1).toInt64) = (y).toInt64 from by subst hy; rfl)) q)
    refine lv_goto (tgt := 2489) hx hb dL_law_2203 (by decide) ?_
    refine lv_iinc (v := (nI (7 * (i + 1)))) (lv' := [(4, .int (nI (7 * (i + 1)))), (6, .int y), (5, .int (kFo nC (xs (7 * i + 1)) (xs (7 * i + 2)))), (0, .ref b), (1, .ref o), (2, .ref M), (3, .ref ou)]) hx hb dL_law_2489 hl (k := 6) rfl (ni_inc7 i) (by decide) rfl (fun ls hl => ?_)
    refine lv_goto (tgt := 23) hx hb dL_law_2492 (by decide) ?_
    exact W.widen (k := 40 + 10 * (i + 1)) (n := 70000 + 1200 * (i + 1)) (by omega) (by omega) (ih _ _ _ (li_end hou9 ⟨_, hO⟩ hM2 hp hn hC2 hi (by omega)) hS (lv_sub hl [3, 4, 5, 6, 0] rfl))
  · have hC2 := hP.same (fun q g1 g2 => q8 q g1 (fun h => g2.2.1 h))
    have hO := x_kept hO (q8 _ (q_lt hO) (fun h => absurd h.2 (Nat.lt_irrefl _)))
    have hp := hne hk
    refine lv_iload hx hb dL_law_2186 (lv_at hl 1 rfl) ?_
    refine lv_if_ne (tgt := 2203) hx hb dL_law_2188 (by decide) (fun _ => ?_) (fun q => absurd q hk)
    refine lv_goto (tgt := 2489) hx hb dL_law_2203 (by decide) ?_
    refine lv_iinc (v := (nI (7 * (i + 1)))) (lv' := [(4, .int (nI (7 * (i + 1)))), (6, .int y), (5, .int (kFo nC (xs (7 * i + 1)) (xs (7 * i + 2)))), (0, .ref b), (1, .ref o), (2, .ref M), (3, .ref ou)]) hx hb dL_law_2489 hl (k := 6) rfl (ni_inc7 i) (by decide) rfl (fun ls hl => ?_)
    refine lv_goto (tgt := 23) hx hb dL_law_2492 (by decide) ?_
    exact W.widen (k := 40 + 10 * (i + 1)) (n := 70000 + 1200 * (i + 1)) (by omega) (by omega) (ih _ _ _ (li_end hou9 ⟨_, hO⟩ hM2 hp hn hC2 hi (by omega)) hS (lv_sub hl [3, 4, 5, 6, 0] rfl))
set_option maxHeartbeats 4000000 in
set_option maxRecDepth 100000 in
theorem lw_c29 {p : Program} {l : Launch} {e : Env} {s : State} {m : MethodId} {below : List Frame} {meth : Method} {c : Code} {b L : Nat} {xs : Nat → Int32} {Q : State → Prop} (hx : p.tables.exec = Jvm.exec) (hb : c.code = cL_law) (hml : c.maxLocals = 8) (hown : s.vm.findClass RL = some m.cls) (hts : ∀ w ∈ wsL_law, w.before #[Value.ref b] s = true) {D : va_G} {cA : Nat → ClassId} (hK : xK D cA s) {z o M h1 ou : Nat} {ad : Nat → Nat} (hX : lK (fun q => s.heap.size ≤ q) z s) (hXs : va_X b L xs s s.heap) (hbl : b < s.heap.size) (hL : L ≤ 3584) (hst : l.stackTraces = false) (h01 : s.heap.size ≤ h1) (h1u : h1 ≤ ou) {i : Nat} (hi9 : 7 * i + 7 ≤ L) {H : Heap} {locs : List Loc} {ls : Array Slot} (hI : LI D cA s.heap.size h1 ou z o M ad i H) (hS : va_S (fun q => s.heap.size ≤ q) s.heap H locs) (hl : lv_has ls 8 [(0, .ref b), (1, .ref o), (2, .ref M), (3, .ref ou), (4, .int (nI (7 * i)))]) (ih : ∀ (H2 : Heap) (locs2 : List Loc) (ls2 : Array Slot), LI D cA s.heap.size h1 ou z o M ad (i + 1) H2 → va_S (fun q => s.heap.size ≤ q) s.heap H2 locs2 → lv_has ls2 8 [(0, .ref b), (1, .ref o), (2, .ref M), (3, .ref ou), (4, .int (nI (7 * (i + 1))))] → W p l e room_1 s m #[Value.ref b] below meth c H2 locs2 (40 + 10 * (i + 1)) (70000 + 1200 * (i + 1)) Q (F0 m 23 ls2 [])) : W p l e room_1 s m #[Value.ref b] below meth c H locs (40 + 10 * i) (70000 + 1200 * i) Q (F0 m 2206 ls []) := by
  obtain ⟨hou9, ⟨o1, hO⟩, σ, nC, nL, nV, hM, hn, hC, hi, hv⟩ := hI
  have hi5 : i ≤ 511 := by omega
  refine lv_aload_n hx hb dL_law_2206 rfl (lv_at hl 1 rfl) ?_
  refine lv_aload_n hx hb dL_law_2207 rfl (lv_at hl 0 rfl) ?_
  refine lv_iload hx hb dL_law_2208 (lv_at hl 4 rfl) ?_
  refine lv_iconst (v := 1) hx hb dL_law_2210 (by decide) ?_
  refine xe_iadd hx hb (nI_add (7 * i) 1) dL_law_2211 ?_
  refine va_sld hx hb hXs hbl (Nat.not_le.mpr hbl) hS (vp_in_nI (show 7 * i + 1 < L by omega) (by omega)) dL_law_2212 ?_
  rw [nI_clamp (show 7 * i + 1 < 2 ^ 31 by omega)]
  refine lv_aload_n hx hb dL_law_2213 rfl (lv_at hl 3 rfl) ?_
  have hou8 : ¬ aC s.heap.size h1 ou ou := fun h => h.2.2 rfl
  have hAn : ∀ q, H.size ≤ q → aC s.heap.size h1 ou q := fun q h => ⟨by have := hS.1; omega, by omega, by omega⟩
  have hBA : ∀ q, (aC s.heap.size h1 ou q ∨ q = ou) → s.heap.size ≤ q := fun q h => h.elim (fun h => h.1) (fun e => by omega)
  refine xl_lcall (vx_runSW (As := [.ref o, .int (xs (7 * i + 1)), .ref ou]) (rest := []) ⟨hx, hb, hml, hown, hts⟩ (c_L_found l hst D cA (aC s.heap.size h1 ou) z o ou σ.2.1 nC nL nV hi H (xs (7 * i + 1)) hou8 hAn) (vx_cwSW 3 hts gL_law_L_found rfl rfl rfl (by decide +kernel) ⟨(Nat.le_of_ble_eq_true rfl), (Nat.le_of_ble_eq_true rfl)⟩) (xPXS hK lK.blind (fun U hU hW => hX.at hS hBA hU hW) ⟨rfl, hC, _, hO⟩) rfl rfl hl.1 rfl (lv_room (Nat.le_of_ble_eq_true rfl)) dL_law_2214 ⟨by show 40 + 10 * i + 3 ≤ 601024; omega, by show 70000 + 1200 * i + 18 ≤ 7293034; omega⟩) hS (fun q _ h => hBA q h) (fun q h => hBA q h) (fun H locs hJ z9 q9 hS => ?_)
  have hM := hM.keptA (fun q g1 g2 => q9 q g1 (fun h => h.elim (fun h => h.2.1 g2) (fun e => by have := g2.2; omega)))
  have hou9 : ou < H.size := Nat.lt_of_lt_of_le hou9 z9
  refine lv_istore (lv' := [(5, .int (kF1 nC (xs (7 * i + 1)))), (0, .ref b), (1, .ref o), (2, .ref M), (3, .ref ou), (4, .int (nI (7 * i)))]) hx hb dL_law_2217 hl (by decide) rfl (fun ls hl => ?_)
  refine lv_aload_n hx hb dL_law_2219 rfl (lv_at hl 3 rfl) ?_
  refine lv_aload_n hx hb dL_law_2220 rfl (lv_at hl 1 rfl) ?_
  refine lv_iload hx hb dL_law_2221 (lv_at hl 5 rfl) ?_
  refine lv_iconst (v := 1) hx hb dL_law_2223 (by decide) ?_
  refine xe_iadd hx hb (nI_add (7 * i) 1) dL_law_2224 ?_
  refine va_sld hx hb hXs hbl (Nat.not_le.mpr hbl) hS (vp_in_nI (show 7 * i + 1 < L by omega) (by omega)) dL_law_2225 ?_
  rw [nI_clamp (show 7 * i + 1 < 2 ^ 31 by omega)]
  have hMA : ∀ q, aM h1 ou q → s.heap.size ≤ q := fun q h => Nat.le_trans h01 h.1
  refine xl_mint (va_runV (As := [.int (xs (7 * i + 1))]) (rest := []) ⟨hx, hb, hml, hown, hts⟩ (c_X7_found l D cA (aM h1 ou) M ad σ (xs (7 * i + 1)) nL hn.2.1 hi.2.1 nC hn.1 hi.1 (gdR.dc hi.2.2.2.2.1 nL)) (cwV 1 hts gL_law_X7_found rfl rfl rfl (by decide +kernel) ⟨(Nat.le_of_ble_eq_true rfl), (Nat.le_of_ble_eq_true rfl)⟩) (xPV hK hM.1 rfl hM) rfl rfl hl.1 rfl (lv_room (Nat.le_of_ble_eq_true rfl)) dL_law_2226 ⟨by show 40 + 10 * i + 3 + 0 ≤ 601024; omega, by show 70000 + 1200 * i + 18 + 0 ≤ 7293034; omega⟩) hS (fun q _ h => hMA q h) (fun q h => hMA q h) (fun y σ2 H locs hM2 ht hne heq z8 q8 hS => ?_)
  have hou9 : ou < H.size := Nat.lt_of_lt_of_le hou9 z8
  refine lv_istore (lv' := [(6, .int y), (5, .int (kF1 nC (xs (7 * i + 1)))), (0, .ref b), (1, .ref o), (2, .ref M), (3, .ref ou), (4, .int (nI (7 * i)))]) hx hb dL_law_2229 hl (by decide) rfl (fun ls hl => ?_)
  refine lv_aload_n hx hb dL_law_2231 rfl (lv_at hl 4 rfl) ?_
  refine xr_call (va_runV (As := []) (rest := []) ⟨hx, hb, hml, hown, hts⟩ (c_X7_thrown l D cA (aM h1 ou) M ad σ2) (cwV 0 hts gL_law_X7_thrown rfl rfl rfl (by decide +kernel) ⟨(Nat.le_of_ble_eq_true rfl), (Nat.le_of_ble_eq_true rfl)⟩) (xPV hK hM2.1 rfl hM2) rfl rfl hl.1 rfl (lv_room (Nat.le_of_ble_eq_true rfl)) dL_law_2232 ⟨by show 40 + 10 * i + 3 + 0 + 0 ≤ 601024; omega, by show 70000 + 1200 * i + 18 + 0 + 0 ≤ 7293034; omega⟩) ?_
  refine xe_top (y := (kF1 nC (xs (7 * i + 1)))) (show σ2.1 25 = (kF1 nC (xs (7 * i + 1))) from ht) ?_
  refine lv_iload hx hb dL_law_2235 (lv_at hl 1 rfl) ?_
  refine lv_icmp_eq (tgt := 2242) hx hb dL_law_2237 (by decide) (fun _ => ?_) (fun q => absurd rfl q)
  rcases hJ with ⟨hk, hP, hO⟩ | ⟨hk, hP, o2, hO⟩
  · have hC2 := hP.same (fun q g1 g2 => q8 q g1 (fun h => g2.2.1 h))
    have hO := x_kept hO (q8 _ (q_lt hO) (fun h => absurd h.2 (Nat.lt_irrefl _)))
    obtain ⟨hy, hp⟩ := heq hk
    refine lv_iload hx hb dL_law_2242 (lv_at hl 1 rfl) ?_
    refine lv_if_ne (tgt := 2259) hx hb dL_law_2244 (by decide) (fun q => absurd hk q) (fun _ => ?_)
    refine lv_aload_n hx hb dL_law_2247 rfl (lv_at hl 5 rfl) ?_
    refine lv_iconst (v := 0) hx hb dL_law_2248 (by decide) ?_
    refine x_lald hx hb hK hO 0 rfl (by omega) (by decide) dL_law_2249 ?_
    refine lv_iload hx hb dL_law_2250 (lv_at hl 0 rfl) ?_
    refine lv_i2l hx hb dL_law_2252 rfl ?_
    refine xe_lcmp hx hb dL_law_2253 (fun v9 hv9 => ?_)
    refine lv_if_eq (tgt := 2259) hx hb dL_law_2254 (by decide) (fun _ => ?_) (fun q => absurd (hv9.mpr (show ((fnF (fun b => decide (akT (akE (mS σ.2.1) (ix (xs (7 * i + 1))) none nL b) = 0)) 16).toInt64) = (y).toInt64 from by subst hy; rfl)) q)
    refine lv_goto (tgt := 2489) hx hb dL_law_2259 (by decide) ?_
    refine lv_iinc (v := (nI (7 * (i + 1)))) (lv' := [(4, .int (nI (7 * (i + 1)))), (6, .int y), (5, .int (kF1 nC (xs (7 * i + 1)))), (0, .ref b), (1, .ref o), (2, .ref M), (3, .ref ou)]) hx hb dL_law_2489 hl (k := 6) rfl (ni_inc7 i) (by decide) rfl (fun ls hl => ?_)
    refine lv_goto (tgt := 23) hx hb dL_law_2492 (by decide) ?_
    exact W.widen (k := 40 + 10 * (i + 1)) (n := 70000 + 1200 * (i + 1)) (by omega) (by omega) (ih _ _ _ (li_end hou9 ⟨_, hO⟩ hM2 hp hn hC2 hi (by omega)) hS (lv_sub hl [3, 4, 5, 6, 0] rfl))
  · have hC2 := hP.same (fun q g1 g2 => q8 q g1 (fun h => g2.2.1 h))
    have hO := x_kept hO (q8 _ (q_lt hO) (fun h => absurd h.2 (Nat.lt_irrefl _)))
    have hp := hne hk
    refine lv_iload hx hb dL_law_2242 (lv_at hl 1 rfl) ?_
    refine lv_if_ne (tgt := 2259) hx hb dL_law_2244 (by decide) (fun _ => ?_) (fun q => absurd q hk)
    refine lv_goto (tgt := 2489) hx hb dL_law_2259 (by decide) ?_
    refine lv_iinc (v := (nI (7 * (i + 1)))) (lv' := [(4, .int (nI (7 * (i + 1)))), (6, .int y), (5, .int (kF1 nC (xs (7 * i + 1)))), (0, .ref b), (1, .ref o), (2, .ref M), (3, .ref ou)]) hx hb dL_law_2489 hl (k := 6) rfl (ni_inc7 i) (by decide) rfl (fun ls hl => ?_)
    refine lv_goto (tgt := 23) hx hb dL_law_2492 (by decide) ?_
    exact W.widen (k := 40 + 10 * (i + 1)) (n := 70000 + 1200 * (i + 1)) (by omega) (by omega) (ih _ _ _ (li_end hou9 ⟨_, hO⟩ hM2 hp hn hC2 hi (by omega)) hS (lv_sub hl [3, 4, 5, 6, 0] rfl))
set_option maxHeartbeats 4000000 in
set_option maxRecDepth 100000 in
theorem lw_c30 {p : Program} {l : Launch} {e : Env} {s : State} {m : MethodId} {below : List Frame} {meth : Method} {c : Code} {b L : Nat} {xs : Nat → Int32} {Q : State → Prop} (hx : p.tables.exec = Jvm.exec) (hb : c.code = cL_law) (hml : c.maxLocals = 8) (hown : s.vm.findClass RL = some m.cls) (hts : ∀ w ∈ wsL_law, w.before #[Value.ref b] s = true) {D : va_G} {cA : Nat → ClassId} (hK : xK D cA s) {z o M h1 ou : Nat} {ad : Nat → Nat} (hX : lK (fun q => s.heap.size ≤ q) z s) (hXs : va_X b L xs s s.heap) (hbl : b < s.heap.size) (hL : L ≤ 3584) (hst : l.stackTraces = false) (h01 : s.heap.size ≤ h1) (h1u : h1 ≤ ou) {i : Nat} (hi9 : 7 * i + 7 ≤ L) {H : Heap} {locs : List Loc} {ls : Array Slot} (hI : LI D cA s.heap.size h1 ou z o M ad i H) (hS : va_S (fun q => s.heap.size ≤ q) s.heap H locs) (hl : lv_has ls 8 [(0, .ref b), (1, .ref o), (2, .ref M), (3, .ref ou), (4, .int (nI (7 * i)))]) (ih : ∀ (H2 : Heap) (locs2 : List Loc) (ls2 : Array Slot), LI D cA s.heap.size h1 ou z o M ad (i + 1) H2 → va_S (fun q => s.heap.size ≤ q) s.heap H2 locs2 → lv_has ls2 8 [(0, .ref b), (1, .ref o), (2, .ref M), (3, .ref ou), (4, .int (nI (7 * (i + 1))))] → W p l e room_1 s m #[Value.ref b] below meth c H2 locs2 (40 + 10 * (i + 1)) (70000 + 1200 * (i + 1)) Q (F0 m 23 ls2 [])) : W p l e room_1 s m #[Value.ref b] below meth c H locs (40 + 10 * i) (70000 + 1200 * i) Q (F0 m 2262 ls []) := by
  obtain ⟨hou9, ⟨o1, hO⟩, σ, nC, nL, nV, hM, hn, hC, hi, hv⟩ := hI
  have hi5 : i ≤ 511 := by omega
  refine lv_aload_n hx hb dL_law_2262 rfl (lv_at hl 1 rfl) ?_
  refine lv_aload_n hx hb dL_law_2263 rfl (lv_at hl 0 rfl) ?_
  refine lv_iload hx hb dL_law_2264 (lv_at hl 4 rfl) ?_
  refine lv_iconst (v := 1) hx hb dL_law_2266 (by decide) ?_
  refine xe_iadd hx hb (nI_add (7 * i) 1) dL_law_2267 ?_
  refine va_sld hx hb hXs hbl (Nat.not_le.mpr hbl) hS (vp_in_nI (show 7 * i + 1 < L by omega) (by omega)) dL_law_2268 ?_
  rw [nI_clamp (show 7 * i + 1 < 2 ^ 31 by omega)]
  refine lv_aload_n hx hb dL_law_2269 rfl (lv_at hl 0 rfl) ?_
  refine lv_iload hx hb dL_law_2270 (lv_at hl 4 rfl) ?_
  refine lv_iconst (v := 2) hx hb dL_law_2272 (by decide) ?_
  refine xe_iadd hx hb (nI_add (7 * i) 2) dL_law_2273 ?_
  refine va_sld hx hb hXs hbl (Nat.not_le.mpr hbl) hS (vp_in_nI (show 7 * i + 2 < L by omega) (by omega)) dL_law_2274 ?_
  rw [nI_clamp (show 7 * i + 2 < 2 ^ 31 by omega)]
  refine lv_aload_n hx hb dL_law_2275 rfl (lv_at hl 3 rfl) ?_
  have hou8 : ¬ aC s.heap.size h1 ou ou := fun h => h.2.2 rfl
  have hAn : ∀ q, H.size ≤ q → aC s.heap.size h1 ou q := fun q h => ⟨by have := hS.1; omega, by omega, by omega⟩
  have hBA : ∀ q, (aC s.heap.size h1 ou q ∨ q = ou) → s.heap.size ≤ q := fun q h => h.elim (fun h => h.1) (fun e => by omega)
  refine xl_lcall (vx_runSW (As := [.ref o, .int (xs (7 * i + 1)), .int (xs (7 * i + 2)), .ref ou]) (rest := []) ⟨hx, hb, hml, hown, hts⟩ (c_L_differ l hst D cA (aC s.heap.size h1 ou) z o ou σ.2.1 nC nL nV hi H (xs (7 * i + 1)) (xs (7 * i + 2)) hou8 hAn) (vx_cwSW 4 hts gL_law_L_differ rfl rfl rfl (by decide +kernel) ⟨(Nat.le_of_ble_eq_true rfl), (Nat.le_of_ble_eq_true rfl)⟩) (xPXS hK lK.blind (fun U hU hW => hX.at hS hBA hU hW) ⟨rfl, hC, _, hO⟩) rfl rfl hl.1 rfl (lv_room (Nat.le_of_ble_eq_true rfl)) dL_law_2276 ⟨by show 40 + 10 * i + 3 ≤ 601024; omega, by show 70000 + 1200 * i + 18 ≤ 7293034; omega⟩) hS (fun q _ h => hBA q h) (fun q h => hBA q h) (fun H locs hJ z9 q9 hS => ?_)
  have hM := hM.keptA (fun q g1 g2 => q9 q g1 (fun h => h.elim (fun h => h.2.1 g2) (fun e => by have := g2.2; omega)))
  have hou9 : ou < H.size := Nat.lt_of_lt_of_le hou9 z9
  refine lv_istore (lv' := [(5, .int (kF2 nC (xs (7 * i + 1)) (xs (7 * i + 2)))), (0, .ref b), (1, .ref o), (2, .ref M), (3, .ref ou), (4, .int (nI (7 * i)))]) hx hb dL_law_2279 hl (by decide) rfl (fun ls hl => ?_)
  refine lv_aload_n hx hb dL_law_2281 rfl (lv_at hl 3 rfl) ?_
  refine lv_aload_n hx hb dL_law_2282 rfl (lv_at hl 1 rfl) ?_
  refine lv_iload hx hb dL_law_2283 (lv_at hl 5 rfl) ?_
  refine lv_iconst (v := 1) hx hb dL_law_2285 (by decide) ?_
  refine xe_iadd hx hb (nI_add (7 * i) 1) dL_law_2286 ?_
  refine va_sld hx hb hXs hbl (Nat.not_le.mpr hbl) hS (vp_in_nI (show 7 * i + 1 < L by omega) (by omega)) dL_law_2287 ?_
  rw [nI_clamp (show 7 * i + 1 < 2 ^ 31 by omega)]
  refine lv_aload_n hx hb dL_law_2288 rfl (lv_at hl 1 rfl) ?_
  refine lv_iload hx hb dL_law_2289 (lv_at hl 5 rfl) ?_
  refine lv_iconst (v := 2) hx hb dL_law_2291 (by decide) ?_
  refine xe_iadd hx hb (nI_add (7 * i) 2) dL_law_2292 ?_
  refine va_sld hx hb hXs hbl (Nat.not_le.mpr hbl) hS (vp_in_nI (show 7 * i + 2 < L by omega) (by omega)) dL_law_2293 ?_
  rw [nI_clamp (show 7 * i + 2 < 2 ^ 31 by omega)]
  have hMA : ∀ q, aM h1 ou q → s.heap.size ≤ q := fun q h => Nat.le_trans h01 h.1
  refine xl_mint (va_runV (As := [.int (xs (7 * i + 1)), .int (xs (7 * i + 2))]) (rest := []) ⟨hx, hb, hml, hown, hts⟩ (c_X7_differ l D cA (aM h1 ou) M ad σ (xs (7 * i + 1)) (xs (7 * i + 2)) nL hn.2.1 hi.2.1 nC hn.1 hi.1 (gdR.dc hi.2.2.2.2.1 nL)) (cwV 2 hts gL_law_X7_differ rfl rfl rfl (by decide +kernel) ⟨(Nat.le_of_ble_eq_true rfl), (Nat.le_of_ble_eq_true rfl)⟩) (xPV hK hM.1 rfl hM) rfl rfl hl.1 rfl (lv_room (Nat.le_of_ble_eq_true rfl)) dL_law_2294 ⟨by show 40 + 10 * i + 3 + 0 ≤ 601024; omega, by show 70000 + 1200 * i + 18 + 0 ≤ 7293034; omega⟩) hS (fun q _ h => hMA q h) (fun q h => hMA q h) (fun y σ2 H locs hM2 ht hne heq z8 q8 hS => ?_)
  have hou9 : ou < H.size := Nat.lt_of_lt_of_le hou9 z8
  refine lv_istore (lv' := [(6, .int y), (5, .int (kF2 nC (xs (7 * i + 1)) (xs (7 * i + 2)))), (0, .ref b), (1, .ref o), (2, .ref M), (3, .ref ou), (4, .int (nI (7 * i)))]) hx hb dL_law_2297 hl (by decide) rfl (fun ls hl => ?_)
  refine lv_aload_n hx hb dL_law_2299 rfl (lv_at hl 4 rfl) ?_
  refine xr_call (va_runV (As := []) (rest := []) ⟨hx, hb, hml, hown, hts⟩ (c_X7_thrown l D cA (aM h1 ou) M ad σ2) (cwV 0 hts gL_law_X7_thrown rfl rfl rfl (by decide +kernel) ⟨(Nat.le_of_ble_eq_true rfl), (Nat.le_of_ble_eq_true rfl)⟩) (xPV hK hM2.1 rfl hM2) rfl rfl hl.1 rfl (lv_room (Nat.le_of_ble_eq_true rfl)) dL_law_2300 ⟨by show 40 + 10 * i + 3 + 0 + 0 ≤ 601024; omega, by show 70000 + 1200 * i + 18 + 0 + 0 ≤ 7293034; omega⟩) ?_
  refine xe_top (y := (kF2 nC (xs (7 * i + 1)) (xs (7 * i + 2)))) (show σ2.1 25 = (kF2 nC (xs (7 * i + 1)) (xs (7 * i + 2))) from ht) ?_
  refine lv_iload hx hb dL_law_2303 (lv_at hl 1 rfl) ?_
  refine lv_icmp_eq (tgt := 2310) hx hb dL_law_2305 (by decide) (fun _ => ?_) (fun q => absurd rfl q)
  rcases hJ with ⟨hk, hP, hO⟩ | ⟨hk, hP, o2, hO⟩
  · have hC2 := hP.same (fun q g1 g2 => q8 q g1 (fun h => g2.2.1 h))
    have hO := x_kept hO (q8 _ (q_lt hO) (fun h => absurd h.2 (Nat.lt_irrefl _)))
    obtain ⟨hy, hp⟩ := heq hk
    refine lv_iload hx hb dL_law_2310 (lv_at hl 1 rfl) ?_
    refine lv_if_ne (tgt := 2327) hx hb dL_law_2312 (by decide) (fun q => absurd hk q) (fun _ => ?_)
    refine lv_aload_n hx hb dL_law_2315 rfl (lv_at hl 5 rfl) ?_
    refine lv_iconst (v := 0) hx hb dL_law_2316 (by decide) ?_
    refine x_lald hx hb hK hO 0 rfl (by omega) (by decide) dL_law_2317 ?_
    refine lv_iload hx hb dL_law_2318 (lv_at hl 0 rfl) ?_
    refine lv_i2l hx hb dL_law_2320 rfl ?_
    refine xe_lcmp hx hb dL_law_2321 (fun v9 hv9 => ?_)
    refine lv_if_eq (tgt := 2327) hx hb dL_law_2322 (by decide) (fun _ => ?_) (fun q => absurd (hv9.mpr (show ((fnF (fun b => difE (akE (mS σ.2.1) (ix (xs (7 * i + 1))) none nL b) (akE (mS σ.2.1) (ix (xs (7 * i + 2))) none nL b) b) 16).toInt64) = (y).toInt64 from by subst hy; rfl)) q)
    refine lv_goto (tgt := 2489) hx hb dL_law_2327 (by decide) ?_
    refine lv_iinc (v := (nI (7 * (i + 1)))) (lv' := [(4, .int (nI (7 * (i + 1)))), (6, .int y), (5, .int (kF2 nC (xs (7 * i + 1)) (xs (7 * i + 2)))), (0, .ref b), (1, .ref o), (2, .ref M), (3, .ref ou)]) hx hb dL_law_2489 hl (k := 6) rfl (ni_inc7 i) (by decide) rfl (fun ls hl => ?_)
    refine lv_goto (tgt := 23) hx hb dL_law_2492 (by decide) ?_
    exact W.widen (k := 40 + 10 * (i + 1)) (n := 70000 + 1200 * (i + 1)) (by omega) (by omega) (ih _ _ _ (li_end hou9 ⟨_, hO⟩ hM2 hp hn hC2 hi (by omega)) hS (lv_sub hl [3, 4, 5, 6, 0] rfl))
  · have hC2 := hP.same (fun q g1 g2 => q8 q g1 (fun h => g2.2.1 h))
    have hO := x_kept hO (q8 _ (q_lt hO) (fun h => absurd h.2 (Nat.lt_irrefl _)))
    have hp := hne hk
    refine lv_iload hx hb dL_law_2310 (lv_at hl 1 rfl) ?_
    refine lv_if_ne (tgt := 2327) hx hb dL_law_2312 (by decide) (fun _ => ?_) (fun q => absurd q hk)
    refine lv_goto (tgt := 2489) hx hb dL_law_2327 (by decide) ?_
    refine lv_iinc (v := (nI (7 * (i + 1)))) (lv' := [(4, .int (nI (7 * (i + 1)))), (6, .int y), (5, .int (kF2 nC (xs (7 * i + 1)) (xs (7 * i + 2)))), (0, .ref b), (1, .ref o), (2, .ref M), (3, .ref ou)]) hx hb dL_law_2489 hl (k := 6) rfl (ni_inc7 i) (by decide) rfl (fun ls hl => ?_)
    refine lv_goto (tgt := 23) hx hb dL_law_2492 (by decide) ?_
    exact W.widen (k := 40 + 10 * (i + 1)) (n := 70000 + 1200 * (i + 1)) (by omega) (by omega) (ih _ _ _ (li_end hou9 ⟨_, hO⟩ hM2 hp hn hC2 hi (by omega)) hS (lv_sub hl [3, 4, 5, 6, 0] rfl))
set_option maxHeartbeats 4000000 in
set_option maxRecDepth 100000 in
theorem lw_c31 {p : Program} {l : Launch} {e : Env} {s : State} {m : MethodId} {below : List Frame} {meth : Method} {c : Code} {b L : Nat} {xs : Nat → Int32} {Q : State → Prop} (hx : p.tables.exec = Jvm.exec) (hb : c.code = cL_law) (hml : c.maxLocals = 8) (hown : s.vm.findClass RL = some m.cls) (hts : ∀ w ∈ wsL_law, w.before #[Value.ref b] s = true) {D : va_G} {cA : Nat → ClassId} (hK : xK D cA s) {z o M h1 ou : Nat} {ad : Nat → Nat} (hX : lK (fun q => s.heap.size ≤ q) z s) (hXs : va_X b L xs s s.heap) (hbl : b < s.heap.size) (hL : L ≤ 3584) (hst : l.stackTraces = false) (h01 : s.heap.size ≤ h1) (h1u : h1 ≤ ou) {i : Nat} (hi9 : 7 * i + 7 ≤ L) {H : Heap} {locs : List Loc} {ls : Array Slot} (hI : LI D cA s.heap.size h1 ou z o M ad i H) (hS : va_S (fun q => s.heap.size ≤ q) s.heap H locs) (hl : lv_has ls 8 [(0, .ref b), (1, .ref o), (2, .ref M), (3, .ref ou), (4, .int (nI (7 * i)))]) (ih : ∀ (H2 : Heap) (locs2 : List Loc) (ls2 : Array Slot), LI D cA s.heap.size h1 ou z o M ad (i + 1) H2 → va_S (fun q => s.heap.size ≤ q) s.heap H2 locs2 → lv_has ls2 8 [(0, .ref b), (1, .ref o), (2, .ref M), (3, .ref ou), (4, .int (nI (7 * (i + 1))))] → W p l e room_1 s m #[Value.ref b] below meth c H2 locs2 (40 + 10 * (i + 1)) (70000 + 1200 * (i + 1)) Q (F0 m 23 ls2 [])) : W p l e room_1 s m #[Value.ref b] below meth c H locs (40 + 10 * i) (70000 + 1200 * i) Q (F0 m 2330 ls []) := by
  obtain ⟨hou9, ⟨o1, hO⟩, σ, nC, nL, nV, hM, hn, hC, hi, hv⟩ := hI
  have hi5 : i ≤ 511 := by omega
  refine lv_aload_n hx hb dL_law_2330 rfl (lv_at hl 1 rfl) ?_
  refine lv_aload_n hx hb dL_law_2331 rfl (lv_at hl 0 rfl) ?_
  refine lv_iload hx hb dL_law_2332 (lv_at hl 4 rfl) ?_
  refine lv_iconst (v := 1) hx hb dL_law_2334 (by decide) ?_
  refine xe_iadd hx hb (nI_add (7 * i) 1) dL_law_2335 ?_
  refine va_sld hx hb hXs hbl (Nat.not_le.mpr hbl) hS (vp_in_nI (show 7 * i + 1 < L by omega) (by omega)) dL_law_2336 ?_
  rw [nI_clamp (show 7 * i + 1 < 2 ^ 31 by omega)]
  refine lv_aload_n hx hb dL_law_2337 rfl (lv_at hl 0 rfl) ?_
  refine lv_iload hx hb dL_law_2338 (lv_at hl 4 rfl) ?_
  refine lv_iconst (v := 2) hx hb dL_law_2340 (by decide) ?_
  refine xe_iadd hx hb (nI_add (7 * i) 2) dL_law_2341 ?_
  refine va_sld hx hb hXs hbl (Nat.not_le.mpr hbl) hS (vp_in_nI (show 7 * i + 2 < L by omega) (by omega)) dL_law_2342 ?_
  rw [nI_clamp (show 7 * i + 2 < 2 ^ 31 by omega)]
  refine lv_aload_n hx hb dL_law_2343 rfl (lv_at hl 0 rfl) ?_
  refine lv_iload hx hb dL_law_2344 (lv_at hl 4 rfl) ?_
  refine lv_iconst (v := 3) hx hb dL_law_2346 (by decide) ?_
  refine xe_iadd hx hb (nI_add (7 * i) 3) dL_law_2347 ?_
  refine va_sld hx hb hXs hbl (Nat.not_le.mpr hbl) hS (vp_in_nI (show 7 * i + 3 < L by omega) (by omega)) dL_law_2348 ?_
  rw [nI_clamp (show 7 * i + 3 < 2 ^ 31 by omega)]
  refine lv_aload_n hx hb dL_law_2349 rfl (lv_at hl 3 rfl) ?_
  have hou8 : ¬ aC s.heap.size h1 ou ou := fun h => h.2.2 rfl
  have hAn : ∀ q, H.size ≤ q → aC s.heap.size h1 ou q := fun q h => ⟨by have := hS.1; omega, by omega, by omega⟩
  have hBA : ∀ q, (aC s.heap.size h1 ou q ∨ q = ou) → s.heap.size ≤ q := fun q h => h.elim (fun h => h.1) (fun e => by omega)
  refine xl_lcall (vx_runSW (As := [.ref o, .int (xs (7 * i + 1)), .int (xs (7 * i + 2)), .int (xs (7 * i + 3)), .ref ou]) (rest := []) ⟨hx, hb, hml, hown, hts⟩ (c_L_statusAt l hst D cA (aC s.heap.size h1 ou) z o ou σ.2.1 nC nL nV hi H (xs (7 * i + 1)) (xs (7 * i + 2)) (xs (7 * i + 3)) hou8 hAn) (vx_cwSW 5 hts gL_law_L_statusAt rfl rfl rfl (by decide +kernel) ⟨(Nat.le_of_ble_eq_true rfl), (Nat.le_of_ble_eq_true rfl)⟩) (xPXS hK lK.blind (fun U hU hW => hX.at hS hBA hU hW) ⟨rfl, hC, _, hO⟩) rfl rfl hl.1 rfl (lv_room (Nat.le_of_ble_eq_true rfl)) dL_law_2350 ⟨by show 40 + 10 * i + 3 ≤ 601024; omega, by show 70000 + 1200 * i + 18 ≤ 7293034; omega⟩) hS (fun q _ h => hBA q h) (fun q h => hBA q h) (fun H locs hJ z9 q9 hS => ?_)
  have hM := hM.keptA (fun q g1 g2 => q9 q g1 (fun h => h.elim (fun h => h.2.1 g2) (fun e => by have := g2.2; omega)))
  have hou9 : ou < H.size := Nat.lt_of_lt_of_le hou9 z9
  refine lv_istore (lv' := [(5, .int (kAt nC nV (xs (7 * i + 1)) (xs (7 * i + 2)) (xs (7 * i + 3)))), (0, .ref b), (1, .ref o), (2, .ref M), (3, .ref ou), (4, .int (nI (7 * i)))]) hx hb dL_law_2353 hl (by decide) rfl (fun ls hl => ?_)
  refine lv_aload_n hx hb dL_law_2355 rfl (lv_at hl 3 rfl) ?_
  refine lv_aload_n hx hb dL_law_2356 rfl (lv_at hl 1 rfl) ?_
  refine lv_iload hx hb dL_law_2357 (lv_at hl 5 rfl) ?_
  refine lv_iconst (v := 1) hx hb dL_law_2359 (by decide) ?_
  refine xe_iadd hx hb (nI_add (7 * i) 1) dL_law_2360 ?_
  refine va_sld hx hb hXs hbl (Nat.not_le.mpr hbl) hS (vp_in_nI (show 7 * i + 1 < L by omega) (by omega)) dL_law_2361 ?_
  rw [nI_clamp (show 7 * i + 1 < 2 ^ 31 by omega)]
  refine lv_aload_n hx hb dL_law_2362 rfl (lv_at hl 1 rfl) ?_
  refine lv_iload hx hb dL_law_2363 (lv_at hl 5 rfl) ?_
  refine lv_iconst (v := 2) hx hb dL_law_2365 (by decide) ?_
  refine xe_iadd hx hb (nI_add (7 * i) 2) dL_law_2366 ?_
  refine va_sld hx hb hXs hbl (Nat.not_le.mpr hbl) hS (vp_in_nI (show 7 * i + 2 < L by omega) (by omega)) dL_law_2367 ?_
  rw [nI_clamp (show 7 * i + 2 < 2 ^ 31 by omega)]
  refine lv_aload_n hx hb dL_law_2368 rfl (lv_at hl 1 rfl) ?_
  refine lv_iload hx hb dL_law_2369 (lv_at hl 5 rfl) ?_
  refine lv_iconst (v := 3) hx hb dL_law_2371 (by decide) ?_
  refine xe_iadd hx hb (nI_add (7 * i) 3) dL_law_2372 ?_
  refine va_sld hx hb hXs hbl (Nat.not_le.mpr hbl) hS (vp_in_nI (show 7 * i + 3 < L by omega) (by omega)) dL_law_2373 ?_
  rw [nI_clamp (show 7 * i + 3 < 2 ^ 31 by omega)]
  have hMA : ∀ q, aM h1 ou q → s.heap.size ≤ q := fun q h => Nat.le_trans h01 h.1
  refine xl_mint (va_runV (As := [.int (xs (7 * i + 1)), .int (xs (7 * i + 2)), .int (xs (7 * i + 3))]) (rest := []) ⟨hx, hb, hml, hown, hts⟩ (c_X7_statusAt l D cA (aM h1 ou) M ad σ (xs (7 * i + 1)) (xs (7 * i + 2)) (xs (7 * i + 3)) nL hn.2.1 hi.2.1 nC hn.1 hi.1 (gdR.dc hi.2.2.2.2.1 nL) nV hn.2.2 (by omega)) (cwV 3 hts gL_law_X7_statusAt rfl rfl rfl (by decide +kernel) ⟨(Nat.le_of_ble_eq_true rfl), (Nat.le_of_ble_eq_true rfl)⟩) (xPV hK hM.1 rfl hM) rfl rfl hl.1 rfl (lv_room (Nat.le_of_ble_eq_true rfl)) dL_law_2374 ⟨by show 40 + 10 * i + 3 + 0 ≤ 601024; omega, by show 70000 + 1200 * i + 18 + 0 ≤ 7293034; omega⟩) hS (fun q _ h => hMA q h) (fun q h => hMA q h) (fun y σ2 H locs hM2 ht hne heq z8 q8 hS => ?_)
  have hou9 : ou < H.size := Nat.lt_of_lt_of_le hou9 z8
  refine lv_istore (lv' := [(6, .int y), (5, .int (kAt nC nV (xs (7 * i + 1)) (xs (7 * i + 2)) (xs (7 * i + 3)))), (0, .ref b), (1, .ref o), (2, .ref M), (3, .ref ou), (4, .int (nI (7 * i)))]) hx hb dL_law_2377 hl (by decide) rfl (fun ls hl => ?_)
  refine lv_aload_n hx hb dL_law_2379 rfl (lv_at hl 4 rfl) ?_
  refine xr_call (va_runV (As := []) (rest := []) ⟨hx, hb, hml, hown, hts⟩ (c_X7_thrown l D cA (aM h1 ou) M ad σ2) (cwV 0 hts gL_law_X7_thrown rfl rfl rfl (by decide +kernel) ⟨(Nat.le_of_ble_eq_true rfl), (Nat.le_of_ble_eq_true rfl)⟩) (xPV hK hM2.1 rfl hM2) rfl rfl hl.1 rfl (lv_room (Nat.le_of_ble_eq_true rfl)) dL_law_2380 ⟨by show 40 + 10 * i + 3 + 0 + 0 ≤ 601024; omega, by show 70000 + 1200 * i + 18 + 0 + 0 ≤ 7293034; omega⟩) ?_
  refine xe_top (y := (kAt nC nV (xs (7 * i + 1)) (xs (7 * i + 2)) (xs (7 * i + 3)))) (show σ2.1 25 = (kAt nC nV (xs (7 * i + 1)) (xs (7 * i + 2)) (xs (7 * i + 3))) from ht) ?_
  refine lv_iload hx hb dL_law_2383 (lv_at hl 1 rfl) ?_
  refine lv_icmp_eq (tgt := 2390) hx hb dL_law_2385 (by decide) (fun _ => ?_) (fun q => absurd rfl q)
  rcases hJ with ⟨hk, hP, hO⟩ | ⟨hk, hP, o2, hO⟩
  · have hC2 := hP.same (fun q g1 g2 => q8 q g1 (fun h => g2.2.1 h))
    have hO := x_kept hO (q8 _ (q_lt hO) (fun h => absurd h.2 (Nat.lt_irrefl _)))
    obtain ⟨hy, hp⟩ := heq hk
    refine lv_iload hx hb dL_law_2390 (lv_at hl 1 rfl) ?_
    refine lv_if_ne (tgt := 2407) hx hb dL_law_2392 (by decide) (fun q => absurd hk q) (fun _ => ?_)
    refine lv_aload_n hx hb dL_law_2395 rfl (lv_at hl 5 rfl) ?_
    refine lv_iconst (v := 0) hx hb dL_law_2396 (by decide) ?_
    refine x_lald hx hb hK hO 0 rfl (by omega) (by decide) dL_law_2397 ?_
    refine lv_iload hx hb dL_law_2398 (lv_at hl 0 rfl) ?_
    refine lv_i2l hx hb dL_law_2400 rfl ?_
    refine xe_lcmp hx hb dL_law_2401 (fun v9 hv9 => ?_)
    refine lv_if_eq (tgt := 2407) hx hb dL_law_2402 (by decide) (fun _ => ?_) (fun q => absurd (hv9.mpr (show ((akT (akE (mS σ.2.1) (ix (xs (7 * i + 2))) (some (ix (xs (7 * i + 1)))) nL (ix (xs (7 * i + 3))))).toInt64) = (y).toInt64 from by subst hy; rfl)) q)
    refine lv_goto (tgt := 2489) hx hb dL_law_2407 (by decide) ?_
    refine lv_iinc (v := (nI (7 * (i + 1)))) (lv' := [(4, .int (nI (7 * (i + 1)))), (6, .int y), (5, .int (kAt nC nV (xs (7 * i + 1)) (xs (7 * i + 2)) (xs (7 * i + 3)))), (0, .ref b), (1, .ref o), (2, .ref M), (3, .ref ou)]) hx hb dL_law_2489 hl (k := 6) rfl (ni_inc7 i) (by decide) rfl (fun ls hl => ?_)
    refine lv_goto (tgt := 23) hx hb dL_law_2492 (by decide) ?_
    exact W.widen (k := 40 + 10 * (i + 1)) (n := 70000 + 1200 * (i + 1)) (by omega) (by omega) (ih _ _ _ (li_end hou9 ⟨_, hO⟩ hM2 hp hn hC2 hi (by omega)) hS (lv_sub hl [3, 4, 5, 6, 0] rfl))
  · have hC2 := hP.same (fun q g1 g2 => q8 q g1 (fun h => g2.2.1 h))
    have hO := x_kept hO (q8 _ (q_lt hO) (fun h => absurd h.2 (Nat.lt_irrefl _)))
    have hp := hne hk
    refine lv_iload hx hb dL_law_2390 (lv_at hl 1 rfl) ?_
    refine lv_if_ne (tgt := 2407) hx hb dL_law_2392 (by decide) (fun _ => ?_) (fun q => absurd q hk)
    refine lv_goto (tgt := 2489) hx hb dL_law_2407 (by decide) ?_
    refine lv_iinc (v := (nI (7 * (i + 1)))) (lv' := [(4, .int (nI (7 * (i + 1)))), (6, .int y), (5, .int (kAt nC nV (xs (7 * i + 1)) (xs (7 * i + 2)) (xs (7 * i + 3)))), (0, .ref b), (1, .ref o), (2, .ref M), (3, .ref ou)]) hx hb dL_law_2489 hl (k := 6) rfl (ni_inc7 i) (by decide) rfl (fun ls hl => ?_)
    refine lv_goto (tgt := 23) hx hb dL_law_2492 (by decide) ?_
    exact W.widen (k := 40 + 10 * (i + 1)) (n := 70000 + 1200 * (i + 1)) (by omega) (by omega) (ih _ _ _ (li_end hou9 ⟨_, hO⟩ hM2 hp hn hC2 hi (by omega)) hS (lv_sub hl [3, 4, 5, 6, 0] rfl))
set_option maxHeartbeats 4000000 in
set_option maxRecDepth 100000 in
theorem lw_c32 {p : Program} {l : Launch} {e : Env} {s : State} {m : MethodId} {below : List Frame} {meth : Method} {c : Code} {b L : Nat} {xs : Nat → Int32} {Q : State → Prop} (hx : p.tables.exec = Jvm.exec) (hb : c.code = cL_law) (hml : c.maxLocals = 8) (hown : s.vm.findClass RL = some m.cls) (hts : ∀ w ∈ wsL_law, w.before #[Value.ref b] s = true) {D : va_G} {cA : Nat → ClassId} (hK : xK D cA s) {z o M h1 ou : Nat} {ad : Nat → Nat} (hX : lK (fun q => s.heap.size ≤ q) z s) (hXs : va_X b L xs s s.heap) (hbl : b < s.heap.size) (hL : L ≤ 3584) (hst : l.stackTraces = false) (h01 : s.heap.size ≤ h1) (h1u : h1 ≤ ou) {i : Nat} (hi9 : 7 * i + 7 ≤ L) {H : Heap} {locs : List Loc} {ls : Array Slot} (hI : LI D cA s.heap.size h1 ou z o M ad i H) (hS : va_S (fun q => s.heap.size ≤ q) s.heap H locs) (hl : lv_has ls 8 [(0, .ref b), (1, .ref o), (2, .ref M), (3, .ref ou), (4, .int (nI (7 * i)))]) (ih : ∀ (H2 : Heap) (locs2 : List Loc) (ls2 : Array Slot), LI D cA s.heap.size h1 ou z o M ad (i + 1) H2 → va_S (fun q => s.heap.size ≤ q) s.heap H2 locs2 → lv_has ls2 8 [(0, .ref b), (1, .ref o), (2, .ref M), (3, .ref ou), (4, .int (nI (7 * (i + 1))))] → W p l e room_1 s m #[Value.ref b] below meth c H2 locs2 (40 + 10 * (i + 1)) (70000 + 1200 * (i + 1)) Q (F0 m 23 ls2 [])) : W p l e room_1 s m #[Value.ref b] below meth c H locs (40 + 10 * i) (70000 + 1200 * i) Q (F0 m 2410 ls []) := by
  obtain ⟨hou9, ⟨o1, hO⟩, σ, nC, nL, nV, hM, hn, hC, hi, hv⟩ := hI
  have hi5 : i ≤ 511 := by omega
  refine lv_aload_n hx hb dL_law_2410 rfl (lv_at hl 1 rfl) ?_
  refine lv_aload_n hx hb dL_law_2411 rfl (lv_at hl 0 rfl) ?_
  refine lv_iload hx hb dL_law_2412 (lv_at hl 4 rfl) ?_
  refine lv_iconst (v := 1) hx hb dL_law_2414 (by decide) ?_
  refine xe_iadd hx hb (nI_add (7 * i) 1) dL_law_2415 ?_
  refine va_sld hx hb hXs hbl (Nat.not_le.mpr hbl) hS (vp_in_nI (show 7 * i + 1 < L by omega) (by omega)) dL_law_2416 ?_
  rw [nI_clamp (show 7 * i + 1 < 2 ^ 31 by omega)]
  refine lv_aload_n hx hb dL_law_2417 rfl (lv_at hl 0 rfl) ?_
  refine lv_iload hx hb dL_law_2418 (lv_at hl 4 rfl) ?_
  refine lv_iconst (v := 2) hx hb dL_law_2420 (by decide) ?_
  refine xe_iadd hx hb (nI_add (7 * i) 2) dL_law_2421 ?_
  refine va_sld hx hb hXs hbl (Nat.not_le.mpr hbl) hS (vp_in_nI (show 7 * i + 2 < L by omega) (by omega)) dL_law_2422 ?_
  rw [nI_clamp (show 7 * i + 2 < 2 ^ 31 by omega)]
  refine lv_aload_n hx hb dL_law_2423 rfl (lv_at hl 0 rfl) ?_
  refine lv_iload hx hb dL_law_2424 (lv_at hl 4 rfl) ?_
  refine lv_iconst (v := 3) hx hb dL_law_2426 (by decide) ?_
  refine xe_iadd hx hb (nI_add (7 * i) 3) dL_law_2427 ?_
  refine va_sld hx hb hXs hbl (Nat.not_le.mpr hbl) hS (vp_in_nI (show 7 * i + 3 < L by omega) (by omega)) dL_law_2428 ?_
  rw [nI_clamp (show 7 * i + 3 < 2 ^ 31 by omega)]
  refine lv_aload_n hx hb dL_law_2429 rfl (lv_at hl 3 rfl) ?_
  have hou8 : ¬ aC s.heap.size h1 ou ou := fun h => h.2.2 rfl
  have hAn : ∀ q, H.size ≤ q → aC s.heap.size h1 ou q := fun q h => ⟨by have := hS.1; omega, by omega, by omega⟩
  have hBA : ∀ q, (aC s.heap.size h1 ou q ∨ q = ou) → s.heap.size ≤ q := fun q h => h.elim (fun h => h.1) (fun e => by omega)
  refine xl_lcall (vx_runSW (As := [.ref o, .int (xs (7 * i + 1)), .int (xs (7 * i + 2)), .int (xs (7 * i + 3)), .ref ou]) (rest := []) ⟨hx, hb, hml, hown, hts⟩ (c_L_valueAt l hst D cA (aC s.heap.size h1 ou) z o ou σ.2.1 nC nL nV hi H (xs (7 * i + 1)) (xs (7 * i + 2)) (xs (7 * i + 3)) hou8 hAn) (vx_cwSW 5 hts gL_law_L_valueAt rfl rfl rfl (by decide +kernel) ⟨(Nat.le_of_ble_eq_true rfl), (Nat.le_of_ble_eq_true rfl)⟩) (xPXS hK lK.blind (fun U hU hW => hX.at hS hBA hU hW) ⟨rfl, hC, _, hO⟩) rfl rfl hl.1 rfl (lv_room (Nat.le_of_ble_eq_true rfl)) dL_law_2430 ⟨by show 40 + 10 * i + 3 ≤ 601024; omega, by show 70000 + 1200 * i + 18 ≤ 7293034; omega⟩) hS (fun q _ h => hBA q h) (fun q h => hBA q h) (fun H locs hJ z9 q9 hS => ?_)
  have hM := hM.keptA (fun q g1 g2 => q9 q g1 (fun h => h.elim (fun h => h.2.1 g2) (fun e => by have := g2.2; omega)))
  have hou9 : ou < H.size := Nat.lt_of_lt_of_le hou9 z9
  refine lv_istore (lv' := [(5, .int (kVt (mS σ.2.1) nL nC nV (xs (7 * i + 1)) (xs (7 * i + 2)) (xs (7 * i + 3)))), (0, .ref b), (1, .ref o), (2, .ref M), (3, .ref ou), (4, .int (nI (7 * i)))]) hx hb dL_law_2433 hl (by decide) rfl (fun ls hl => ?_)
  refine lv_aload_n hx hb dL_law_2435 rfl (lv_at hl 3 rfl) ?_
  refine lv_aload_n hx hb dL_law_2436 rfl (lv_at hl 1 rfl) ?_
  refine lv_iload hx hb dL_law_2437 (lv_at hl 5 rfl) ?_
  refine lv_iconst (v := 1) hx hb dL_law_2439 (by decide) ?_
  refine xe_iadd hx hb (nI_add (7 * i) 1) dL_law_2440 ?_
  refine va_sld hx hb hXs hbl (Nat.not_le.mpr hbl) hS (vp_in_nI (show 7 * i + 1 < L by omega) (by omega)) dL_law_2441 ?_
  rw [nI_clamp (show 7 * i + 1 < 2 ^ 31 by omega)]
  refine lv_aload_n hx hb dL_law_2442 rfl (lv_at hl 1 rfl) ?_
  refine lv_iload hx hb dL_law_2443 (lv_at hl 5 rfl) ?_
  refine lv_iconst (v := 2) hx hb dL_law_2445 (by decide) ?_
  refine xe_iadd hx hb (nI_add (7 * i) 2) dL_law_2446 ?_
  refine va_sld hx hb hXs hbl (Nat.not_le.mpr hbl) hS (vp_in_nI (show 7 * i + 2 < L by omega) (by omega)) dL_law_2447 ?_
  rw [nI_clamp (show 7 * i + 2 < 2 ^ 31 by omega)]
  refine lv_aload_n hx hb dL_law_2448 rfl (lv_at hl 1 rfl) ?_
  refine lv_iload hx hb dL_law_2449 (lv_at hl 5 rfl) ?_
  refine lv_iconst (v := 3) hx hb dL_law_2451 (by decide) ?_
  refine xe_iadd hx hb (nI_add (7 * i) 3) dL_law_2452 ?_
  refine va_sld hx hb hXs hbl (Nat.not_le.mpr hbl) hS (vp_in_nI (show 7 * i + 3 < L by omega) (by omega)) dL_law_2453 ?_
  rw [nI_clamp (show 7 * i + 3 < 2 ^ 31 by omega)]
  have hMA : ∀ q, aM h1 ou q → s.heap.size ≤ q := fun q h => Nat.le_trans h01 h.1
  refine xl_mlong (va_runV (As := [.int (xs (7 * i + 1)), .int (xs (7 * i + 2)), .int (xs (7 * i + 3))]) (rest := []) ⟨hx, hb, hml, hown, hts⟩ (c_X7_valueAt l D cA (aM h1 ou) M ad σ (xs (7 * i + 1)) (xs (7 * i + 2)) (xs (7 * i + 3)) nL hn.2.1 hi.2.1 nC hn.1 hi.1 (gdR.dc hi.2.2.2.2.1 nL) nV hn.2.2 (by omega)) (cwV 3 hts gL_law_X7_valueAt rfl rfl rfl (by decide +kernel) ⟨(Nat.le_of_ble_eq_true rfl), (Nat.le_of_ble_eq_true rfl)⟩) (xPV hK hM.1 rfl hM) rfl rfl hl.1 rfl (lv_room (Nat.le_of_ble_eq_true rfl)) dL_law_2454 ⟨by show 40 + 10 * i + 3 + 0 ≤ 601024; omega, by show 70000 + 1200 * i + 18 + 0 ≤ 7293034; omega⟩) hS (fun q _ h => hMA q h) (fun q h => hMA q h) (fun y σ2 H locs hM2 ht hne heq z8 q8 hS => ?_)
  have hou9 : ou < H.size := Nat.lt_of_lt_of_le hou9 z8
  refine lv_lstore (lv' := [(6, .long y), (5, .int (kVt (mS σ.2.1) nL nC nV (xs (7 * i + 1)) (xs (7 * i + 2)) (xs (7 * i + 3)))), (0, .ref b), (1, .ref o), (2, .ref M), (3, .ref ou), (4, .int (nI (7 * i)))]) hx hb dL_law_2457 hl (by decide) rfl (fun ls hl => ?_)
  refine lv_aload_n hx hb dL_law_2459 rfl (lv_at hl 4 rfl) ?_
  refine xr_call (va_runV (As := []) (rest := []) ⟨hx, hb, hml, hown, hts⟩ (c_X7_thrown l D cA (aM h1 ou) M ad σ2) (cwV 0 hts gL_law_X7_thrown rfl rfl rfl (by decide +kernel) ⟨(Nat.le_of_ble_eq_true rfl), (Nat.le_of_ble_eq_true rfl)⟩) (xPV hK hM2.1 rfl hM2) rfl rfl hl.1 rfl (lv_room (Nat.le_of_ble_eq_true rfl)) dL_law_2460 ⟨by show 40 + 10 * i + 3 + 0 + 0 ≤ 601024; omega, by show 70000 + 1200 * i + 18 + 0 + 0 ≤ 7293034; omega⟩) ?_
  refine xe_top (y := (kVt (mS σ.2.1) nL nC nV (xs (7 * i + 1)) (xs (7 * i + 2)) (xs (7 * i + 3)))) (show σ2.1 25 = (kVt (mS σ.2.1) nL nC nV (xs (7 * i + 1)) (xs (7 * i + 2)) (xs (7 * i + 3))) from ht) ?_
  refine lv_iload hx hb dL_law_2463 (lv_at hl 1 rfl) ?_
  refine lv_icmp_eq (tgt := 2470) hx hb dL_law_2465 (by decide) (fun _ => ?_) (fun q => absurd rfl q)
  rcases hJ with ⟨hk, hP, hO⟩ | ⟨hk, hP, o2, hO⟩
  · have hC2 := hP.same (fun q g1 g2 => q8 q g1 (fun h => g2.2.1 h))
    have hO := x_kept hO (q8 _ (q_lt hO) (fun h => absurd h.2 (Nat.lt_irrefl _)))
    obtain ⟨hy, hp⟩ := heq hk
    refine lv_iload hx hb dL_law_2470 (lv_at hl 1 rfl) ?_
    refine lv_if_ne (tgt := 2486) hx hb dL_law_2472 (by decide) (fun q => absurd hk q) (fun _ => ?_)
    refine lv_aload_n hx hb dL_law_2475 rfl (lv_at hl 5 rfl) ?_
    refine lv_iconst (v := 0) hx hb dL_law_2476 (by decide) ?_
    refine x_lald hx hb hK hO 0 rfl (by omega) (by decide) dL_law_2477 ?_
    refine lv_lload hx hb dL_law_2478 (lv_at hl 0 rfl) ?_
    refine xe_lcmp hx hb dL_law_2480 (fun v9 hv9 => ?_)
    refine lv_if_eq (tgt := 2486) hx hb dL_law_2481 (by decide) (fun _ => ?_) (fun q => absurd (hv9.mpr (show (akV (akE (mS σ.2.1) (ix (xs (7 * i + 2))) (some (ix (xs (7 * i + 1)))) nL (ix (xs (7 * i + 3)))) (ix (xs (7 * i + 3)))) = y from by subst hy; rfl)) q)
    refine lv_goto (tgt := 2489) hx hb dL_law_2486 (by decide) ?_
    refine lv_iinc (v := (nI (7 * (i + 1)))) (lv' := [(4, .int (nI (7 * (i + 1)))), (6, .long y), (5, .int (kVt (mS σ.2.1) nL nC nV (xs (7 * i + 1)) (xs (7 * i + 2)) (xs (7 * i + 3)))), (0, .ref b), (1, .ref o), (2, .ref M), (3, .ref ou)]) hx hb dL_law_2489 hl (k := 6) rfl (ni_inc7 i) (by decide) rfl (fun ls hl => ?_)
    refine lv_goto (tgt := 23) hx hb dL_law_2492 (by decide) ?_
    exact W.widen (k := 40 + 10 * (i + 1)) (n := 70000 + 1200 * (i + 1)) (by omega) (by omega) (ih _ _ _ (li_end hou9 ⟨_, hO⟩ hM2 hp hn hC2 hi (by omega)) hS (lv_sub hl [3, 4, 5, 6, 0] rfl))
  · have hC2 := hP.same (fun q g1 g2 => q8 q g1 (fun h => g2.2.1 h))
    have hO := x_kept hO (q8 _ (q_lt hO) (fun h => absurd h.2 (Nat.lt_irrefl _)))
    have hp := hne hk
    refine lv_iload hx hb dL_law_2470 (lv_at hl 1 rfl) ?_
    refine lv_if_ne (tgt := 2486) hx hb dL_law_2472 (by decide) (fun _ => ?_) (fun q => absurd q hk)
    refine lv_goto (tgt := 2489) hx hb dL_law_2486 (by decide) ?_
    refine lv_iinc (v := (nI (7 * (i + 1)))) (lv' := [(4, .int (nI (7 * (i + 1)))), (6, .long y), (5, .int (kVt (mS σ.2.1) nL nC nV (xs (7 * i + 1)) (xs (7 * i + 2)) (xs (7 * i + 3)))), (0, .ref b), (1, .ref o), (2, .ref M), (3, .ref ou)]) hx hb dL_law_2489 hl (k := 6) rfl (ni_inc7 i) (by decide) rfl (fun ls hl => ?_)
    refine lv_goto (tgt := 23) hx hb dL_law_2492 (by decide) ?_
    exact W.widen (k := 40 + 10 * (i + 1)) (n := 70000 + 1200 * (i + 1)) (by omega) (by omega) (ih _ _ _ (li_end hou9 ⟨_, hO⟩ hM2 hp hn hC2 hi (by omega)) hS (lv_sub hl [3, 4, 5, 6, 0] rfl))
