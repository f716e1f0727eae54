set_option maxHeartbeats 4000000 in
set_option maxRecDepth 100000 in
theorem lw_c9 {p : Program} {l : Launch} {e : Env} {s : State} {m : MethodId} {below : List Frame} {meth : Method} {c : Code} {b L : Nat} {xs : Nat → Int32} {Q : State → Prop} (hx : p.tables.exec = Jvm.exec) (hb : c.code = cL_law) (hml : c.maxLocals = 8) (hown : s.vm.findClass RL = some m.cls) (hts : ∀ w ∈ wsL_law, w.before #[Value.ref b] s = true) {D : va_G} {cA : Nat → ClassId} (hK : xK D cA s) {z o M h1 ou : Nat} {ad : Nat → Nat} (hX : lK (fun q => s.heap.size ≤ q) z s) (hXs : va_X b L xs s s.heap) (hbl : b < s.heap.size) (hL : L ≤ 3584) (hst : l.stackTraces = false) (h01 : s.heap.size ≤ h1) (h1u : h1 ≤ ou) {i : Nat} (hi9 : 7 * i + 7 ≤ L) {H : Heap} {locs : List Loc} {ls : Array Slot} (hI : LI D cA s.heap.size h1 ou z o M ad i H) (hS : va_S (fun q => s.heap.size ≤ q) s.heap H locs) (hl : lv_has ls 8 [(0, .ref b), (1, .ref o), (2, .ref M), (3, .ref ou), (4, .int (nI (7 * i)))]) (ih : ∀ (H2 : Heap) (locs2 : List Loc) (ls2 : Array Slot), LI D cA s.heap.size h1 ou z o M ad (i + 1) H2 → va_S (fun q => s.heap.size ≤ q) s.heap H2 locs2 → lv_has ls2 8 [(0, .ref b), (1, .ref o), (2, .ref M), (3, .ref ou), (4, .int (nI (7 * (i + 1))))] → W p l e room_1 s m #[Value.ref b] below meth c H2 locs2 (40 + 10 * (i + 1)) (70000 + 1200 * (i + 1)) Q (F0 m 23 ls2 [])) : W p l e room_1 s m #[Value.ref b] below meth c H locs (40 + 10 * i) (70000 + 1200 * i) Q (F0 m 713 ls []) := by
  obtain ⟨hou9, ⟨o1, hO⟩, σ, nC, nL, nV, hM, hn, hC, hi, hv⟩ := hI
  have hi5 : i ≤ 511 := by omega
  refine lv_aload_n hx hb dL_law_713 rfl (lv_at hl 1 rfl) ?_
  refine lv_aload_n hx hb dL_law_714 rfl (lv_at hl 0 rfl) ?_
  refine lv_iload hx hb dL_law_715 (lv_at hl 4 rfl) ?_
  refine lv_iconst (v := 1) hx hb dL_law_717 (by decide) ?_
  refine xe_iadd hx hb (nI_add (7 * i) 1) dL_law_718 ?_
  refine va_sld hx hb hXs hbl (Nat.not_le.mpr hbl) hS (vp_in_nI (show 7 * i + 1 < L by omega) (by omega)) dL_law_719 ?_
  rw [nI_clamp (show 7 * i + 1 < 2 ^ 31 by omega)]
  refine lv_aload_n hx hb dL_law_720 rfl (lv_at hl 0 rfl) ?_
  refine lv_iload hx hb dL_law_721 (lv_at hl 4 rfl) ?_
  refine lv_iconst (v := 2) hx hb dL_law_723 (by decide) ?_
  refine xe_iadd hx hb (nI_add (7 * i) 2) dL_law_724 ?_
  refine va_sld hx hb hXs hbl (Nat.not_le.mpr hbl) hS (vp_in_nI (show 7 * i + 2 < L by omega) (by omega)) dL_law_725 ?_
  rw [nI_clamp (show 7 * i + 2 < 2 ^ 31 by omega)]
  refine lv_aload_n hx hb dL_law_726 rfl (lv_at hl 0 rfl) ?_
  refine lv_iload hx hb dL_law_727 (lv_at hl 4 rfl) ?_
  refine lv_iconst (v := 3) hx hb dL_law_729 (by decide) ?_
  refine xe_iadd hx hb (nI_add (7 * i) 3) dL_law_730 ?_
  refine va_sld hx hb hXs hbl (Nat.not_le.mpr hbl) hS (vp_in_nI (show 7 * i + 3 < L by omega) (by omega)) dL_law_731 ?_
  rw [nI_clamp (show 7 * i + 3 < 2 ^ 31 by omega)]
  refine lv_aload_n hx hb dL_law_732 rfl (lv_at hl 0 rfl) ?_
  refine lv_iload hx hb dL_law_733 (lv_at hl 4 rfl) ?_
  refine lv_iconst (v := 4) hx hb dL_law_735 (by decide) ?_
  refine xe_iadd hx hb (nI_add (7 * i) 4) dL_law_736 ?_
  refine va_sld hx hb hXs hbl (Nat.not_le.mpr hbl) hS (vp_in_nI (show 7 * i + 4 < L by omega) (by omega)) dL_law_737 ?_
  rw [nI_clamp (show 7 * i + 4 < 2 ^ 31 by omega)]
  refine lv_aload_n hx hb dL_law_738 rfl (lv_at hl 0 rfl) ?_
  refine lv_iload hx hb dL_law_739 (lv_at hl 4 rfl) ?_
  refine lv_iconst (v := 5) hx hb dL_law_741 (by decide) ?_
  refine xe_iadd hx hb (nI_add (7 * i) 5) dL_law_742 ?_
  refine va_sld hx hb hXs hbl (Nat.not_le.mpr hbl) hS (vp_in_nI (show 7 * i + 5 < L by omega) (by omega)) dL_law_743 ?_
  rw [nI_clamp (show 7 * i + 5 < 2 ^ 31 by omega)]
  refine lv_aload_n hx hb dL_law_744 rfl (lv_at hl 0 rfl) ?_
  refine lv_iload hx hb dL_law_745 (lv_at hl 4 rfl) ?_
  refine lv_bipush (v := 6) hx hb dL_law_747 (by decide) ?_
  refine xe_iadd hx hb (nI_add (7 * i) 6) dL_law_749 ?_
  refine va_sld hx hb hXs hbl (Nat.not_le.mpr hbl) hS (vp_in_nI (show 7 * i + 6 < L by omega) (by omega)) dL_law_750 ?_
  rw [nI_clamp (show 7 * i + 6 < 2 ^ 31 by omega)]
  refine lv_aload_n hx hb dL_law_751 rfl (lv_at hl 3 rfl) ?_
  have hou8 : ¬ aC s.heap.size h1 ou ou := fun h => h.2.2 rfl
  have hAn : ∀ q, H.size ≤ q → aC s.heap.size h1 ou q := fun q h => ⟨by have := hS.1; omega, by omega, by omega⟩
  have hBA : ∀ q, (aC s.heap.size h1 ou q ∨ q = ou) → s.heap.size ≤ q := fun q h => h.elim (fun h => h.1) (fun e => by omega)
  refine xl_lcall (vx_runSW (As := [.ref o, .int (xs (7 * i + 1)), .int (xs (7 * i + 2)), .int (xs (7 * i + 3)), .int (xs (7 * i + 4)), .int (xs (7 * i + 5)), .int (xs (7 * i + 6)), .ref ou]) (rest := []) ⟨hx, hb, hml, hown, hts⟩ (c_L_template l hst D cA (aC s.heap.size h1 ou) z o ou σ.2.1 nC nL nV hi H (xs (7 * i + 1)) (xs (7 * i + 2)) (xs (7 * i + 3)) (xs (7 * i + 4)) (xs (7 * i + 5)) (xs (7 * i + 6)) hou8 hAn) (vx_cwSW 8 hts gL_law_L_template rfl rfl rfl (by decide +kernel) ⟨(Nat.le_of_ble_eq_true rfl), (Nat.le_of_ble_eq_true rfl)⟩) (xPXS hK lK.blind (fun U hU hW => hX.at hS hBA hU hW) ⟨rfl, hC, _, hO⟩) rfl rfl hl.1 rfl (lv_room (Nat.le_of_ble_eq_true rfl)) dL_law_752 ⟨by show 40 + 10 * i + 8 ≤ 601024; omega, by show 70000 + 1200 * i + 1160 ≤ 7293034; omega⟩) hS (fun q _ h => hBA q h) (fun q h => hBA q h) (fun H locs hJ z9 q9 hS => ?_)
  have hM := hM.keptA (fun q g1 g2 => q9 q g1 (fun h => h.elim (fun h => h.2.1 g2) (fun e => by have := g2.2; omega)))
  have hou9 : ou < H.size := Nat.lt_of_lt_of_le hou9 z9
  refine lv_istore (lv' := [(5, .int (wrF (mS σ.2.1) nL (xs (7 * i + 1)) (xs (7 * i + 2)) (okB (xs (7 * i + 3)) && okT (xs (7 * i + 4)) (xs (7 * i + 5))) (xs (7 * i + 6)) false)), (0, .ref b), (1, .ref o), (2, .ref M), (3, .ref ou), (4, .int (nI (7 * i)))]) hx hb dL_law_755 hl (by decide) rfl (fun ls hl => ?_)
  refine lv_aload_n hx hb dL_law_757 rfl (lv_at hl 3 rfl) ?_
  refine lv_aload_n hx hb dL_law_758 rfl (lv_at hl 1 rfl) ?_
  refine lv_iload hx hb dL_law_759 (lv_at hl 5 rfl) ?_
  refine lv_iconst (v := 1) hx hb dL_law_761 (by decide) ?_
  refine xe_iadd hx hb (nI_add (7 * i) 1) dL_law_762 ?_
  refine va_sld hx hb hXs hbl (Nat.not_le.mpr hbl) hS (vp_in_nI (show 7 * i + 1 < L by omega) (by omega)) dL_law_763 ?_
  rw [nI_clamp (show 7 * i + 1 < 2 ^ 31 by omega)]
  refine lv_aload_n hx hb dL_law_764 rfl (lv_at hl 1 rfl) ?_
  refine lv_iload hx hb dL_law_765 (lv_at hl 5 rfl) ?_
  refine lv_iconst (v := 2) hx hb dL_law_767 (by decide) ?_
  refine xe_iadd hx hb (nI_add (7 * i) 2) dL_law_768 ?_
  refine va_sld hx hb hXs hbl (Nat.not_le.mpr hbl) hS (vp_in_nI (show 7 * i + 2 < L by omega) (by omega)) dL_law_769 ?_
  rw [nI_clamp (show 7 * i + 2 < 2 ^ 31 by omega)]
  refine lv_aload_n hx hb dL_law_770 rfl (lv_at hl 1 rfl) ?_
  refine lv_iload hx hb dL_law_771 (lv_at hl 5 rfl) ?_
  refine lv_iconst (v := 3) hx hb dL_law_773 (by decide) ?_
  refine xe_iadd hx hb (nI_add (7 * i) 3) dL_law_774 ?_
  refine va_sld hx hb hXs hbl (Nat.not_le.mpr hbl) hS (vp_in_nI (show 7 * i + 3 < L by omega) (by omega)) dL_law_775 ?_
  rw [nI_clamp (show 7 * i + 3 < 2 ^ 31 by omega)]
  refine lv_aload_n hx hb dL_law_776 rfl (lv_at hl 1 rfl) ?_
  refine lv_iload hx hb dL_law_777 (lv_at hl 5 rfl) ?_
  refine lv_iconst (v := 4) hx hb dL_law_779 (by decide) ?_
  refine xe_iadd hx hb (nI_add (7 * i) 4) dL_law_780 ?_
  refine va_sld hx hb hXs hbl (Nat.not_le.mpr hbl) hS (vp_in_nI (show 7 * i + 4 < L by omega) (by omega)) dL_law_781 ?_
  rw [nI_clamp (show 7 * i + 4 < 2 ^ 31 by omega)]
  refine lv_aload_n hx hb dL_law_782 rfl (lv_at hl 1 rfl) ?_
  refine lv_iload hx hb dL_law_783 (lv_at hl 5 rfl) ?_
  refine lv_iconst (v := 5) hx hb dL_law_785 (by decide) ?_
  refine xe_iadd hx hb (nI_add (7 * i) 5) dL_law_786 ?_
  refine va_sld hx hb hXs hbl (Nat.not_le.mpr hbl) hS (vp_in_nI (show 7 * i + 5 < L by omega) (by omega)) dL_law_787 ?_
  rw [nI_clamp (show 7 * i + 5 < 2 ^ 31 by omega)]
  refine lv_aload_n hx hb dL_law_788 rfl (lv_at hl 1 rfl) ?_
  refine lv_iload hx hb dL_law_789 (lv_at hl 5 rfl) ?_
  refine lv_bipush (v := 6) hx hb dL_law_791 (by decide) ?_
  refine xe_iadd hx hb (nI_add (7 * i) 6) dL_law_793 ?_
  refine va_sld hx hb hXs hbl (Nat.not_le.mpr hbl) hS (vp_in_nI (show 7 * i + 6 < L by omega) (by omega)) dL_law_794 ?_
  rw [nI_clamp (show 7 * i + 6 < 2 ^ 31 by omega)]
  have hMA : ∀ q, aM h1 ou q → s.heap.size ≤ q := fun q h => Nat.le_trans h01 h.1
  refine xl_mint (va_runV (As := [.int (xs (7 * i + 1)), .int (xs (7 * i + 2)), .int (xs (7 * i + 3)), .int (xs (7 * i + 4)), .int (xs (7 * i + 5)), .int (xs (7 * i + 6))]) (rest := []) ⟨hx, hb, hml, hown, hts⟩ (c_X7_template l D cA (aM h1 ou) M ad σ (xs (7 * i + 1)) (xs (7 * i + 2)) (xs (7 * i + 3)) (xs (7 * i + 4)) (xs (7 * i + 5)) (xs (7 * i + 6)) nL hn.2.1 hi.2.1 nV hn.2.2 (by omega)) (cwV 6 hts gL_law_X7_template rfl rfl rfl (by decide +kernel) ⟨(Nat.le_of_ble_eq_true rfl), (Nat.le_of_ble_eq_true rfl)⟩) (xPV hK hM.1 rfl hM) rfl rfl hl.1 rfl (lv_room (Nat.le_of_ble_eq_true rfl)) dL_law_795 ⟨by show 40 + 10 * i + 8 + 0 ≤ 601024; omega, by show 70000 + 1200 * i + 1160 + 0 ≤ 7293034; omega⟩) hS (fun q _ h => hMA q h) (fun q h => hMA q h) (fun y σ2 H locs hM2 ht hne heq z8 q8 hS => ?_)
  have hou9 : ou < H.size := Nat.lt_of_lt_of_le hou9 z8
  refine lv_istore (lv' := [(6, .int y), (5, .int (wrF (mS σ.2.1) nL (xs (7 * i + 1)) (xs (7 * i + 2)) (okB (xs (7 * i + 3)) && okT (xs (7 * i + 4)) (xs (7 * i + 5))) (xs (7 * i + 6)) false)), (0, .ref b), (1, .ref o), (2, .ref M), (3, .ref ou), (4, .int (nI (7 * i)))]) hx hb dL_law_798 hl (by decide) rfl (fun ls hl => ?_)
  refine lv_aload_n hx hb dL_law_800 rfl (lv_at hl 4 rfl) ?_
  refine xr_call (va_runV (As := []) (rest := []) ⟨hx, hb, hml, hown, hts⟩ (c_X7_thrown l D cA (aM h1 ou) M ad σ2) (cwV 0 hts gL_law_X7_thrown rfl rfl rfl (by decide +kernel) ⟨(Nat.le_of_ble_eq_true rfl), (Nat.le_of_ble_eq_true rfl)⟩) (xPV hK hM2.1 rfl hM2) rfl rfl hl.1 rfl (lv_room (Nat.le_of_ble_eq_true rfl)) dL_law_801 ⟨by show 40 + 10 * i + 8 + 0 + 0 ≤ 601024; omega, by show 70000 + 1200 * i + 1160 + 0 + 0 ≤ 7293034; omega⟩) ?_
  refine xe_top (y := (wrF (mS σ.2.1) nL (xs (7 * i + 1)) (xs (7 * i + 2)) (okB (xs (7 * i + 3)) && okT (xs (7 * i + 4)) (xs (7 * i + 5))) (xs (7 * i + 6)) false)) (show σ2.1 25 = (wrF (mS σ.2.1) nL (xs (7 * i + 1)) (xs (7 * i + 2)) (okB (xs (7 * i + 3)) && okT (xs (7 * i + 4)) (xs (7 * i + 5))) (xs (7 * i + 6)) false) from ht) ?_
  refine lv_iload hx hb dL_law_804 (lv_at hl 1 rfl) ?_
  refine lv_icmp_eq (tgt := 811) hx hb dL_law_806 (by decide) (fun _ => ?_) (fun q => absurd rfl q)
  rcases hJ with ⟨hk, hP, hO⟩ | ⟨hk, hP, o2, hO⟩
  · have hC2 := hP.same (fun q g1 g2 => q8 q g1 (fun h => g2.2.1 h))
    have hO := x_kept hO (q8 _ (q_lt hO) (fun h => absurd h.2 (Nat.lt_irrefl _)))
    obtain ⟨hy, hp⟩ := heq hk
    refine lv_iload hx hb dL_law_811 (lv_at hl 1 rfl) ?_
    refine lv_if_ne (tgt := 828) hx hb dL_law_813 (by decide) (fun q => absurd hk q) (fun _ => ?_)
    refine lv_aload_n hx hb dL_law_816 rfl (lv_at hl 5 rfl) ?_
    refine lv_iconst (v := 0) hx hb dL_law_817 (by decide) ?_
    refine x_lald hx hb hK hO 0 rfl (by omega) (by decide) dL_law_818 ?_
    refine lv_iload hx hb dL_law_819 (lv_at hl 0 rfl) ?_
    refine lv_i2l hx hb dL_law_821 rfl ?_
    refine xe_lcmp hx hb dL_law_822 (fun v9 hv9 => ?_)
    refine lv_if_eq (tgt := 828) hx hb dL_law_823 (by decide) (fun _ => ?_) (fun q => absurd (hv9.mpr (show ((nI (putV (mS σ.2.1) nV (cl (xs (7 * i + 1)) (xs (7 * i + 2))) (enc (xs (7 * i + 3)) (xs (7 * i + 4)) (xs (7 * i + 5))))).toInt64) = (y).toInt64 from by subst hy; rfl)) q)
    refine lv_goto (tgt := 2489) hx hb dL_law_828 (by decide) ?_
    refine lv_iinc (v := (nI (7 * (i + 1)))) (lv' := [(4, .int (nI (7 * (i + 1)))), (6, .int y), (5, .int (wrF (mS σ.2.1) nL (xs (7 * i + 1)) (xs (7 * i + 2)) (okB (xs (7 * i + 3)) && okT (xs (7 * i + 4)) (xs (7 * i + 5))) (xs (7 * i + 6)) false)), (0, .ref b), (1, .ref o), (2, .ref M), (3, .ref ou)]) hx hb dL_law_2489 hl (k := 6) rfl (ni_inc7 i) (by decide) rfl (fun ls hl => ?_)
    refine lv_goto (tgt := 23) hx hb dL_law_2492 (by decide) ?_
    exact W.widen (k := 40 + 10 * (i + 1)) (n := 70000 + 1200 * (i + 1)) (by omega) (by omega) (ih _ _ _ (li_end hou9 ⟨_, hO⟩ hM2 hp (mN_put hn (cl (xs (7 * i + 1)) (xs (7 * i + 2))) (enc (xs (7 * i + 3)) (xs (7 * i + 4)) (xs (7 * i + 5)))) (by rw [put_ms]; exact hC2) (by rw [put_ms]; exact hi.wr (by omega) hk (fun h => gdE_enc (gdT_of h))) (by have := putV_le σ nV (cl (xs (7 * i + 1)) (xs (7 * i + 2))) (enc (xs (7 * i + 3)) (xs (7 * i + 4)) (xs (7 * i + 5))); omega)) hS (lv_sub hl [3, 4, 5, 6, 0] rfl))
  · have hC2 := hP.same (fun q g1 g2 => q8 q g1 (fun h => g2.2.1 h))
    have hO := x_kept hO (q8 _ (q_lt hO) (fun h => absurd h.2 (Nat.lt_irrefl _)))
    have hp := hne hk
    refine lv_iload hx hb dL_law_811 (lv_at hl 1 rfl) ?_
    refine lv_if_ne (tgt := 828) hx hb dL_law_813 (by decide) (fun _ => ?_) (fun q => absurd q hk)
    refine lv_goto (tgt := 2489) hx hb dL_law_828 (by decide) ?_
    refine lv_iinc (v := (nI (7 * (i + 1)))) (lv' := [(4, .int (nI (7 * (i + 1)))), (6, .int y), (5, .int (wrF (mS σ.2.1) nL (xs (7 * i + 1)) (xs (7 * i + 2)) (okB (xs (7 * i + 3)) && okT (xs (7 * i + 4)) (xs (7 * i + 5))) (xs (7 * i + 6)) false)), (0, .ref b), (1, .ref o), (2, .ref M), (3, .ref ou)]) hx hb dL_law_2489 hl (k := 6) rfl (ni_inc7 i) (by decide) rfl (fun ls hl => ?_)
    refine lv_goto (tgt := 23) hx hb dL_law_2492 (by decide) ?_
    exact W.widen (k := 40 + 10 * (i + 1)) (n := 70000 + 1200 * (i + 1)) (by omega) (by omega) (ih _ _ _ (li_end hou9 ⟨_, hO⟩ hM2 hp hn hC2 hi (by omega)) hS (lv_sub hl [3, 4, 5, 6, 0] rfl))
set_option maxHeartbeats 4000000 in
set_option maxRecDepth 100000 in
theorem lw_c10 {p : Program} {l : Launch} {e : Env} {s : State} {m : MethodId} {below : List Frame} {meth : Method} {c : Code} {b L : Nat} {xs : Nat → Int32} {Q : State → Prop} (hx : p.tables.exec = Jvm.exec) (hb : c.code = cL_law) (hml : c.maxLocals = 8) (hown : s.vm.findClass RL = some m.cls) (hts : ∀ w ∈ wsL_law, w.before #[Value.ref b] s = true) {D : va_G} {cA : Nat → ClassId} (hK : xK D cA s) {z o M h1 ou : Nat} {ad : Nat → Nat} (hX : lK (fun q => s.heap.size ≤ q) z s) (hXs : va_X b L xs s s.heap) (hbl : b < s.heap.size) (hL : L ≤ 3584) (hst : l.stackTraces = false) (h01 : s.heap.size ≤ h1) (h1u : h1 ≤ ou) {i : Nat} (hi9 : 7 * i + 7 ≤ L) {H : Heap} {locs : List Loc} {ls : Array Slot} (hI : LI D cA s.heap.size h1 ou z o M ad i H) (hS : va_S (fun q => s.heap.size ≤ q) s.heap H locs) (hl : lv_has ls 8 [(0, .ref b), (1, .ref o), (2, .ref M), (3, .ref ou), (4, .int (nI (7 * i)))]) (ih : ∀ (H2 : Heap) (locs2 : List Loc) (ls2 : Array Slot), LI D cA s.heap.size h1 ou z o M ad (i + 1) H2 → va_S (fun q => s.heap.size ≤ q) s.heap H2 locs2 → lv_has ls2 8 [(0, .ref b), (1, .ref o), (2, .ref M), (3, .ref ou), (4, .int (nI (7 * (i + 1))))] → W p l e room_1 s m #[Value.ref b] below meth c H2 locs2 (40 + 10 * (i + 1)) (70000 + 1200 * (i + 1)) Q (F0 m 23 ls2 [])) : W p l e room_1 s m #[Value.ref b] below meth c H locs (40 + 10 * i) (70000 + 1200 * i) Q (F0 m 831 ls []) := by
  obtain ⟨hou9, ⟨o1, hO⟩, σ, nC, nL, nV, hM, hn, hC, hi, hv⟩ := hI
  have hi5 : i ≤ 511 := by omega
  refine lv_aload_n hx hb dL_law_831 rfl (lv_at hl 1 rfl) ?_
  refine lv_aload_n hx hb dL_law_832 rfl (lv_at hl 0 rfl) ?_
  refine lv_iload hx hb dL_law_833 (lv_at hl 4 rfl) ?_
  refine lv_iconst (v := 1) hx hb dL_law_835 (by decide) ?_
  refine xe_iadd hx hb (nI_add (7 * i) 1) dL_law_836 ?_
  refine va_sld hx hb hXs hbl (Nat.not_le.mpr hbl) hS (vp_in_nI (show 7 * i + 1 < L by omega) (by omega)) dL_law_837 ?_
  rw [nI_clamp (show 7 * i + 1 < 2 ^ 31 by omega)]
  refine lv_aload_n hx hb dL_law_838 rfl (lv_at hl 0 rfl) ?_
  refine lv_iload hx hb dL_law_839 (lv_at hl 4 rfl) ?_
  refine lv_iconst (v := 2) hx hb dL_law_841 (by decide) ?_
  refine xe_iadd hx hb (nI_add (7 * i) 2) dL_law_842 ?_
  refine va_sld hx hb hXs hbl (Nat.not_le.mpr hbl) hS (vp_in_nI (show 7 * i + 2 < L by omega) (by omega)) dL_law_843 ?_
  rw [nI_clamp (show 7 * i + 2 < 2 ^ 31 by omega)]
  refine lv_aload_n hx hb dL_law_844 rfl (lv_at hl 0 rfl) ?_
  refine lv_iload hx hb dL_law_845 (lv_at hl 4 rfl) ?_
  refine lv_iconst (v := 3) hx hb dL_law_847 (by decide) ?_
  refine xe_iadd hx hb (nI_add (7 * i) 3) dL_law_848 ?_
  refine va_sld hx hb hXs hbl (Nat.not_le.mpr hbl) hS (vp_in_nI (show 7 * i + 3 < L by omega) (by omega)) dL_law_849 ?_
  rw [nI_clamp (show 7 * i + 3 < 2 ^ 31 by omega)]
  refine lv_aload_n hx hb dL_law_850 rfl (lv_at hl 3 rfl) ?_
  have hou8 : ¬ aC s.heap.size h1 ou ou := fun h => h.2.2 rfl
  have hAn : ∀ q, H.size ≤ q → aC s.heap.size h1 ou q := fun q h => ⟨by have := hS.1; omega, by omega, by omega⟩
  have hBA : ∀ q, (aC s.heap.size h1 ou q ∨ q = ou) → s.heap.size ≤ q := fun q h => h.elim (fun h => h.1) (fun e => by omega)
  refine xl_lcall (vx_runSW (As := [.ref o, .int (xs (7 * i + 1)), .int (xs (7 * i + 2)), .int (xs (7 * i + 3)), .ref ou]) (rest := []) ⟨hx, hb, hml, hown, hts⟩ (c_L_remove l hst D cA (aC s.heap.size h1 ou) z o ou σ.2.1 nC nL nV hi H (xs (7 * i + 1)) (xs (7 * i + 2)) (xs (7 * i + 3)) hou8 hAn) (vx_cwSW 5 hts gL_law_L_remove rfl rfl rfl (by decide +kernel) ⟨(Nat.le_of_ble_eq_true rfl), (Nat.le_of_ble_eq_true rfl)⟩) (xPXS hK lK.blind (fun U hU hW => hX.at hS hBA hU hW) ⟨rfl, hC, _, hO⟩) rfl rfl hl.1 rfl (lv_room (Nat.le_of_ble_eq_true rfl)) dL_law_851 ⟨by show 40 + 10 * i + 8 ≤ 601024; omega, by show 70000 + 1200 * i + 1160 ≤ 7293034; omega⟩) hS (fun q _ h => hBA q h) (fun q h => hBA q h) (fun H locs hJ z9 q9 hS => ?_)
  have hM := hM.keptA (fun q g1 g2 => q9 q g1 (fun h => h.elim (fun h => h.2.1 g2) (fun e => by have := g2.2; omega)))
  have hou9 : ou < H.size := Nat.lt_of_lt_of_le hou9 z9
  refine lv_istore (lv' := [(5, .int (kRm (mS σ.2.1) nL (xs (7 * i + 1)) (xs (7 * i + 2)) (xs (7 * i + 3)))), (0, .ref b), (1, .ref o), (2, .ref M), (3, .ref ou), (4, .int (nI (7 * i)))]) hx hb dL_law_854 hl (by decide) rfl (fun ls hl => ?_)
  refine lv_aload_n hx hb dL_law_856 rfl (lv_at hl 3 rfl) ?_
  refine lv_aload_n hx hb dL_law_857 rfl (lv_at hl 1 rfl) ?_
  refine lv_iload hx hb dL_law_858 (lv_at hl 5 rfl) ?_
  refine lv_iconst (v := 1) hx hb dL_law_860 (by decide) ?_
  refine xe_iadd hx hb (nI_add (7 * i) 1) dL_law_861 ?_
  refine va_sld hx hb hXs hbl (Nat.not_le.mpr hbl) hS (vp_in_nI (show 7 * i + 1 < L by omega) (by omega)) dL_law_862 ?_
  rw [nI_clamp (show 7 * i + 1 < 2 ^ 31 by omega)]
  refine lv_aload_n hx hb dL_law_863 rfl (lv_at hl 1 rfl) ?_
  refine lv_iload hx hb dL_law_864 (lv_at hl 5 rfl) ?_
  refine lv_iconst (v := 2) hx hb dL_law_866 (by decide) ?_
  refine xe_iadd hx hb (nI_add (7 * i) 2) dL_law_867 ?_
  refine va_sld hx hb hXs hbl (Nat.not_le.mpr hbl) hS (vp_in_nI (show 7 * i + 2 < L by omega) (by omega)) dL_law_868 ?_
  rw [nI_clamp (show 7 * i + 2 < 2 ^ 31 by omega)]
  refine lv_aload_n hx hb dL_law_869 rfl (lv_at hl 1 rfl) ?_
  refine lv_iload hx hb dL_law_870 (lv_at hl 5 rfl) ?_
  refine lv_iconst (v := 3) hx hb dL_law_872 (by decide) ?_
  refine xe_iadd hx hb (nI_add (7 * i) 3) dL_law_873 ?_
  refine va_sld hx hb hXs hbl (Nat.not_le.mpr hbl) hS (vp_in_nI (show 7 * i + 3 < L by omega) (by omega)) dL_law_874 ?_
  rw [nI_clamp (show 7 * i + 3 < 2 ^ 31 by omega)]
  have hMA : ∀ q, aM h1 ou q → s.heap.size ≤ q := fun q h => Nat.le_trans h01 h.1
  refine xl_mint (va_runV (As := [.int (xs (7 * i + 1)), .int (xs (7 * i + 2)), .int (xs (7 * i + 3))]) (rest := []) ⟨hx, hb, hml, hown, hts⟩ (c_X7_remove l D cA (aM h1 ou) M ad σ (xs (7 * i + 1)) (xs (7 * i + 2)) (xs (7 * i + 3)) nL hn.2.1 hi.2.1 nV hn.2.2 (by omega)) (cwV 3 hts gL_law_X7_remove rfl rfl rfl (by decide +kernel) ⟨(Nat.le_of_ble_eq_true rfl), (Nat.le_of_ble_eq_true rfl)⟩) (xPV hK hM.1 rfl hM) rfl rfl hl.1 rfl (lv_room (Nat.le_of_ble_eq_true rfl)) dL_law_875 ⟨by show 40 + 10 * i + 8 + 0 ≤ 601024; omega, by show 70000 + 1200 * i + 1160 + 0 ≤ 7293034; omega⟩) hS (fun q _ h => hMA q h) (fun q h => hMA q h) (fun y σ2 H locs hM2 ht hne heq z8 q8 hS => ?_)
  have hou9 : ou < H.size := Nat.lt_of_lt_of_le hou9 z8
  refine lv_istore (lv' := [(6, .int y), (5, .int (kRm (mS σ.2.1) nL (xs (7 * i + 1)) (xs (7 * i + 2)) (xs (7 * i + 3)))), (0, .ref b), (1, .ref o), (2, .ref M), (3, .ref ou), (4, .int (nI (7 * i)))]) hx hb dL_law_878 hl (by decide) rfl (fun ls hl => ?_)
  refine lv_aload_n hx hb dL_law_880 rfl (lv_at hl 4 rfl) ?_
  refine xr_call (va_runV (As := []) (rest := []) ⟨hx, hb, hml, hown, hts⟩ (c_X7_thrown l D cA (aM h1 ou) M ad σ2) (cwV 0 hts gL_law_X7_thrown rfl rfl rfl (by decide +kernel) ⟨(Nat.le_of_ble_eq_true rfl), (Nat.le_of_ble_eq_true rfl)⟩) (xPV hK hM2.1 rfl hM2) rfl rfl hl.1 rfl (lv_room (Nat.le_of_ble_eq_true rfl)) dL_law_881 ⟨by show 40 + 10 * i + 8 + 0 + 0 ≤ 601024; omega, by show 70000 + 1200 * i + 1160 + 0 + 0 ≤ 7293034; omega⟩) ?_
  refine xe_top (y := (kRm (mS σ.2.1) nL (xs (7 * i + 1)) (xs (7 * i + 2)) (xs (7 * i + 3)))) (show σ2.1 25 = (kRm (mS σ.2.1) nL (xs (7 * i + 1)) (xs (7 * i + 2)) (xs (7 * i + 3))) from ht) ?_
  refine lv_iload hx hb dL_law_884 (lv_at hl 1 rfl) ?_
  refine lv_icmp_eq (tgt := 891) hx hb dL_law_886 (by decide) (fun _ => ?_) (fun q => absurd rfl q)
  rcases hJ with ⟨hk, hP, hO⟩ | ⟨hk, hP, o2, hO⟩
  · have hC2 := hP.same (fun q g1 g2 => q8 q g1 (fun h => g2.2.1 h))
    have hO := x_kept hO (q8 _ (q_lt hO) (fun h => absurd h.2 (Nat.lt_irrefl _)))
    obtain ⟨hy, hp⟩ := heq hk
    refine lv_iload hx hb dL_law_891 (lv_at hl 1 rfl) ?_
    refine lv_if_ne (tgt := 908) hx hb dL_law_893 (by decide) (fun q => absurd hk q) (fun _ => ?_)
    refine lv_aload_n hx hb dL_law_896 rfl (lv_at hl 5 rfl) ?_
    refine lv_iconst (v := 0) hx hb dL_law_897 (by decide) ?_
    refine x_lald hx hb hK hO 0 rfl (by omega) (by decide) dL_law_898 ?_
    refine lv_iload hx hb dL_law_899 (lv_at hl 0 rfl) ?_
    refine lv_i2l hx hb dL_law_901 rfl ?_
    refine xe_lcmp hx hb dL_law_902 (fun v9 hv9 => ?_)
    refine lv_if_eq (tgt := 908) hx hb dL_law_903 (by decide) (fun _ => ?_) (fun q => absurd (hv9.mpr (show ((nI (putV (mS σ.2.1) nV (cl (xs (7 * i + 1)) (xs (7 * i + 2))) (0))).toInt64) = (y).toInt64 from by subst hy; rfl)) q)
    refine lv_goto (tgt := 2489) hx hb dL_law_908 (by decide) ?_
    refine lv_iinc (v := (nI (7 * (i + 1)))) (lv' := [(4, .int (nI (7 * (i + 1)))), (6, .int y), (5, .int (kRm (mS σ.2.1) nL (xs (7 * i + 1)) (xs (7 * i + 2)) (xs (7 * i + 3)))), (0, .ref b), (1, .ref o), (2, .ref M), (3, .ref ou)]) hx hb dL_law_2489 hl (k := 6) rfl (ni_inc7 i) (by decide) rfl (fun ls hl => ?_)
    refine lv_goto (tgt := 23) hx hb dL_law_2492 (by decide) ?_
    exact W.widen (k := 40 + 10 * (i + 1)) (n := 70000 + 1200 * (i + 1)) (by omega) (by omega) (ih _ _ _ (li_end hou9 ⟨_, hO⟩ hM2 hp (mN_put hn (cl (xs (7 * i + 1)) (xs (7 * i + 2))) 0) (by rw [put_ms]; exact hC2) (by rw [put_ms]; exact hi.wr (by omega) (kRm_0 hk) (fun _ => Or.inl rfl)) (by have := putV_le σ nV (cl (xs (7 * i + 1)) (xs (7 * i + 2))) 0; omega)) hS (lv_sub hl [3, 4, 5, 6, 0] rfl))
  · have hC2 := hP.same (fun q g1 g2 => q8 q g1 (fun h => g2.2.1 h))
    have hO := x_kept hO (q8 _ (q_lt hO) (fun h => absurd h.2 (Nat.lt_irrefl _)))
    have hp := hne hk
    refine lv_iload hx hb dL_law_891 (lv_at hl 1 rfl) ?_
    refine lv_if_ne (tgt := 908) hx hb dL_law_893 (by decide) (fun _ => ?_) (fun q => absurd q hk)
    refine lv_goto (tgt := 2489) hx hb dL_law_908 (by decide) ?_
    refine lv_iinc (v := (nI (7 * (i + 1)))) (lv' := [(4, .int (nI (7 * (i + 1)))), (6, .int y), (5, .int (kRm (mS σ.2.1) nL (xs (7 * i + 1)) (xs (7 * i + 2)) (xs (7 * i + 3)))), (0, .ref b), (1, .ref o), (2, .ref M), (3, .ref ou)]) hx hb dL_law_2489 hl (k := 6) rfl (ni_inc7 i) (by decide) rfl (fun ls hl => ?_)
    refine lv_goto (tgt := 23) hx hb dL_law_2492 (by decide) ?_
    exact W.widen (k := 40 + 10 * (i + 1)) (n := 70000 + 1200 * (i + 1)) (by omega) (by omega) (ih _ _ _ (li_end hou9 ⟨_, hO⟩ hM2 hp hn hC2 hi (by omega)) hS (lv_sub hl [3, 4, 5, 6, 0] rfl))
set_option maxHeartbeats 4000000 in
set_option maxRecDepth 100000 in
theorem lw_c11 {p : Program} {l : Launch} {e : Env} {s : State} {m : MethodId} {below : List Frame} {meth : Method} {c : Code} {b L : Nat} {xs : Nat → Int32} {Q : State → Prop} (hx : p.tables.exec = Jvm.exec) (hb : c.code = cL_law) (hml : c.maxLocals = 8) (hown : s.vm.findClass RL = some m.cls) (hts : ∀ w ∈ wsL_law, w.before #[Value.ref b] s = true) {D : va_G} {cA : Nat → ClassId} (hK : xK D cA s) {z o M h1 ou : Nat} {ad : Nat → Nat} (hX : lK (fun q => s.heap.size ≤ q) z s) (hXs : va_X b L xs s s.heap) (hbl : b < s.heap.size) (hL : L ≤ 3584) (hst : l.stackTraces = false) (h01 : s.heap.size ≤ h1) (h1u : h1 ≤ ou) {i : Nat} (hi9 : 7 * i + 7 ≤ L) {H : Heap} {locs : List Loc} {ls : Array Slot} (hI : LI D cA s.heap.size h1 ou z o M ad i H) (hS : va_S (fun q => s.heap.size ≤ q) s.heap H locs) (hl : lv_has ls 8 [(0, .ref b), (1, .ref o), (2, .ref M), (3, .ref ou), (4, .int (nI (7 * i)))]) (ih : ∀ (H2 : Heap) (locs2 : List Loc) (ls2 : Array Slot), LI D cA s.heap.size h1 ou z o M ad (i + 1) H2 → va_S (fun q => s.heap.size ≤ q) s.heap H2 locs2 → lv_has ls2 8 [(0, .ref b), (1, .ref o), (2, .ref M), (3, .ref ou), (4, .int (nI (7 * (i + 1))))] → W p l e room_1 s m #[Value.ref b] below meth c H2 locs2 (40 + 10 * (i + 1)) (70000 + 1200 * (i + 1)) Q (F0 m 23 ls2 [])) : W p l e room_1 s m #[Value.ref b] below meth c H locs (40 + 10 * i) (70000 + 1200 * i) Q (F0 m 911 ls []) := by
  obtain ⟨hou9, ⟨o1, hO⟩, σ, nC, nL, nV, hM, hn, hC, hi, hv⟩ := hI
  have hi5 : i ≤ 511 := by omega
  refine lv_aload_n hx hb dL_law_911 rfl (lv_at hl 1 rfl) ?_
  refine lv_aload_n hx hb dL_law_912 rfl (lv_at hl 0 rfl) ?_
  refine lv_iload hx hb dL_law_913 (lv_at hl 4 rfl) ?_
  refine lv_iconst (v := 1) hx hb dL_law_915 (by decide) ?_
  refine xe_iadd hx hb (nI_add (7 * i) 1) dL_law_916 ?_
  refine va_sld hx hb hXs hbl (Nat.not_le.mpr hbl) hS (vp_in_nI (show 7 * i + 1 < L by omega) (by omega)) dL_law_917 ?_
  rw [nI_clamp (show 7 * i + 1 < 2 ^ 31 by omega)]
  refine lv_aload_n hx hb dL_law_918 rfl (lv_at hl 0 rfl) ?_
  refine lv_iload hx hb dL_law_919 (lv_at hl 4 rfl) ?_
  refine lv_iconst (v := 2) hx hb dL_law_921 (by decide) ?_
  refine xe_iadd hx hb (nI_add (7 * i) 2) dL_law_922 ?_
  refine va_sld hx hb hXs hbl (Nat.not_le.mpr hbl) hS (vp_in_nI (show 7 * i + 2 < L by omega) (by omega)) dL_law_923 ?_
  rw [nI_clamp (show 7 * i + 2 < 2 ^ 31 by omega)]
  refine lv_aload_n hx hb dL_law_924 rfl (lv_at hl 3 rfl) ?_
  have hou8 : ¬ aC s.heap.size h1 ou ou := fun h => h.2.2 rfl
  have hAn : ∀ q, H.size ≤ q → aC s.heap.size h1 ou q := fun q h => ⟨by have := hS.1; omega, by omega, by omega⟩
  have hBA : ∀ q, (aC s.heap.size h1 ou q ∨ q = ou) → s.heap.size ≤ q := fun q h => h.elim (fun h => h.1) (fun e => by omega)
  refine xl_lcall (vx_runSW (As := [.ref o, .int (xs (7 * i + 1)), .int (xs (7 * i + 2)), .ref ou]) (rest := []) ⟨hx, hb, hml, hown, hts⟩ (c_L_has l hst D cA (aC s.heap.size h1 ou) z o ou σ.2.1 nC nL nV hi H (xs (7 * i + 1)) (xs (7 * i + 2)) hou8 hAn) (vx_cwSW 4 hts gL_law_L_has rfl rfl rfl (by decide +kernel) ⟨(Nat.le_of_ble_eq_true rfl), (Nat.le_of_ble_eq_true rfl)⟩) (xPXS hK lK.blind (fun U hU hW => hX.at hS hBA hU hW) ⟨rfl, hC, _, hO⟩) rfl rfl hl.1 rfl (lv_room (Nat.le_of_ble_eq_true rfl)) dL_law_925 ⟨by show 40 + 10 * i + 3 ≤ 601024; omega, by show 70000 + 1200 * i + 18 ≤ 7293034; omega⟩) hS (fun q _ h => hBA q h) (fun q h => hBA q h) (fun H locs hJ z9 q9 hS => ?_)
  have hM := hM.keptA (fun q g1 g2 => q9 q g1 (fun h => h.elim (fun h => h.2.1 g2) (fun e => by have := g2.2; omega)))
  have hou9 : ou < H.size := Nat.lt_of_lt_of_le hou9 z9
  refine lv_istore (lv' := [(5, .int (kCe nL (xs (7 * i + 1)) (xs (7 * i + 2)))), (0, .ref b), (1, .ref o), (2, .ref M), (3, .ref ou), (4, .int (nI (7 * i)))]) hx hb dL_law_928 hl (by decide) rfl (fun ls hl => ?_)
  refine lv_aload_n hx hb dL_law_930 rfl (lv_at hl 3 rfl) ?_
  refine lv_aload_n hx hb dL_law_931 rfl (lv_at hl 1 rfl) ?_
  refine lv_iload hx hb dL_law_932 (lv_at hl 5 rfl) ?_
  refine lv_iconst (v := 1) hx hb dL_law_934 (by decide) ?_
  refine xe_iadd hx hb (nI_add (7 * i) 1) dL_law_935 ?_
  refine va_sld hx hb hXs hbl (Nat.not_le.mpr hbl) hS (vp_in_nI (show 7 * i + 1 < L by omega) (by omega)) dL_law_936 ?_
  rw [nI_clamp (show 7 * i + 1 < 2 ^ 31 by omega)]
  refine lv_aload_n hx hb dL_law_937 rfl (lv_at hl 1 rfl) ?_
  refine lv_iload hx hb dL_law_938 (lv_at hl 5 rfl) ?_
  refine lv_iconst (v := 2) hx hb dL_law_940 (by decide) ?_
  refine xe_iadd hx hb (nI_add (7 * i) 2) dL_law_941 ?_
  refine va_sld hx hb hXs hbl (Nat.not_le.mpr hbl) hS (vp_in_nI (show 7 * i + 2 < L by omega) (by omega)) dL_law_942 ?_
  rw [nI_clamp (show 7 * i + 2 < 2 ^ 31 by omega)]
  have hMA : ∀ q, aM h1 ou q → s.heap.size ≤ q := fun q h => Nat.le_trans h01 h.1
  refine xl_mint (va_runV (As := [.int (xs (7 * i + 1)), .int (xs (7 * i + 2))]) (rest := []) ⟨hx, hb, hml, hown, hts⟩ (c_X7_has l D cA (aM h1 ou) M ad σ (xs (7 * i + 1)) (xs (7 * i + 2)) nL hn.2.1 hi.2.1) (cwV 2 hts gL_law_X7_has rfl rfl rfl (by decide +kernel) ⟨(Nat.le_of_ble_eq_true rfl), (Nat.le_of_ble_eq_true rfl)⟩) (xPV hK hM.1 rfl hM) rfl rfl hl.1 rfl (lv_room (Nat.le_of_ble_eq_true rfl)) dL_law_943 ⟨by show 40 + 10 * i + 3 + 0 ≤ 601024; omega, by show 70000 + 1200 * i + 18 + 0 ≤ 7293034; omega⟩) hS (fun q _ h => hMA q h) (fun q h => hMA q h) (fun y σ2 H locs hM2 ht hne heq z8 q8 hS => ?_)
  have hou9 : ou < H.size := Nat.lt_of_lt_of_le hou9 z8
  refine lv_istore (lv' := [(6, .int y), (5, .int (kCe nL (xs (7 * i + 1)) (xs (7 * i + 2)))), (0, .ref b), (1, .ref o), (2, .ref M), (3, .ref ou), (4, .int (nI (7 * i)))]) hx hb dL_law_946 hl (by decide) rfl (fun ls hl => ?_)
  refine lv_aload_n hx hb dL_law_948 rfl (lv_at hl 4 rfl) ?_
  refine xr_call (va_runV (As := []) (rest := []) ⟨hx, hb, hml, hown, hts⟩ (c_X7_thrown l D cA (aM h1 ou) M ad σ2) (cwV 0 hts gL_law_X7_thrown rfl rfl rfl (by decide +kernel) ⟨(Nat.le_of_ble_eq_true rfl), (Nat.le_of_ble_eq_true rfl)⟩) (xPV hK hM2.1 rfl hM2) rfl rfl hl.1 rfl (lv_room (Nat.le_of_ble_eq_true rfl)) dL_law_949 ⟨by show 40 + 10 * i + 3 + 0 + 0 ≤ 601024; omega, by show 70000 + 1200 * i + 18 + 0 + 0 ≤ 7293034; omega⟩) ?_
  refine xe_top (y := (kCe nL (xs (7 * i + 1)) (xs (7 * i + 2)))) (show σ2.1 25 = (kCe nL (xs (7 * i + 1)) (xs (7 * i + 2))) from ht) ?_
  refine lv_iload hx hb dL_law_952 (lv_at hl 1 rfl) ?_
  refine lv_icmp_eq (tgt := 959) hx hb dL_law_954 (by decide) (fun _ => ?_) (fun q => absurd rfl q)
  rcases hJ with ⟨hk, hP, hO⟩ | ⟨hk, hP, o2, hO⟩
  · have hC2 := hP.same (fun q g1 g2 => q8 q g1 (fun h => g2.2.1 h))
    have hO := x_kept hO (q8 _ (q_lt hO) (fun h => absurd h.2 (Nat.lt_irrefl _)))
    obtain ⟨hy, hp⟩ := heq hk
    refine lv_iload hx hb dL_law_959 (lv_at hl 1 rfl) ?_
    refine lv_if_ne (tgt := 983) hx hb dL_law_961 (by decide) (fun q => absurd hk q) (fun _ => ?_)
    refine lv_aload_n hx hb dL_law_964 rfl (lv_at hl 5 rfl) ?_
    refine lv_iconst (v := 0) hx hb dL_law_965 (by decide) ?_
    refine x_lald hx hb hK hO 0 rfl (by omega) (by decide) dL_law_966 ?_
    refine lv_iload hx hb dL_law_967 (lv_at hl 0 rfl) ?_
    refine xe_top (y := bI (decide (0 < σ.2.1 7 (cl (xs (7 * i + 1)) (xs (7 * i + 2)))))) hy ?_
    refine xb_eq (tgt := 976) hx hb dL_law_969 (by decide) (fun hbc => ?_) (fun hbc => ?_)
    · refine lv_lconst (v := 0) hx hb dL_law_976 (by decide) ?_
      refine xe_lcmp hx hb dL_law_977 (fun v9 hv9 => ?_)
      refine lv_if_eq (tgt := 983) hx hb dL_law_978 (by decide) (fun _ => ?_) (fun q => absurd (hv9.mpr (show bL (decide (0 < σ.2.1 7 (cl (xs (7 * i + 1)) (xs (7 * i + 2))))) = 0 from by unfold bL; rw [hbc]; rfl)) q)
      refine lv_goto (tgt := 2489) hx hb dL_law_983 (by decide) ?_
      refine lv_iinc (v := (nI (7 * (i + 1)))) (lv' := [(4, .int (nI (7 * (i + 1)))), (6, .int y), (5, .int (kCe nL (xs (7 * i + 1)) (xs (7 * i + 2)))), (0, .ref b), (1, .ref o), (2, .ref M), (3, .ref ou)]) hx hb dL_law_2489 hl (k := 6) rfl (ni_inc7 i) (by decide) rfl (fun ls hl => ?_)
      refine lv_goto (tgt := 23) hx hb dL_law_2492 (by decide) ?_
      exact W.widen (k := 40 + 10 * (i + 1)) (n := 70000 + 1200 * (i + 1)) (by omega) (by omega) (ih _ _ _ (li_end hou9 ⟨_, hO⟩ hM2 hp hn hC2 hi (by omega)) hS (lv_sub hl [3, 4, 5, 6, 0] rfl))
    · refine lv_lconst (v := 1) hx hb dL_law_972 (by decide) ?_
      refine lv_goto (tgt := 977) hx hb dL_law_973 (by decide) ?_
      refine xe_lcmp hx hb dL_law_977 (fun v9 hv9 => ?_)
      refine lv_if_eq (tgt := 983) hx hb dL_law_978 (by decide) (fun _ => ?_) (fun q => absurd (hv9.mpr (show bL (decide (0 < σ.2.1 7 (cl (xs (7 * i + 1)) (xs (7 * i + 2))))) = 1 from by unfold bL; rw [hbc]; rfl)) q)
      refine lv_goto (tgt := 2489) hx hb dL_law_983 (by decide) ?_
      refine lv_iinc (v := (nI (7 * (i + 1)))) (lv' := [(4, .int (nI (7 * (i + 1)))), (6, .int y), (5, .int (kCe nL (xs (7 * i + 1)) (xs (7 * i + 2)))), (0, .ref b), (1, .ref o), (2, .ref M), (3, .ref ou)]) hx hb dL_law_2489 hl (k := 6) rfl (ni_inc7 i) (by decide) rfl (fun ls hl => ?_)
      refine lv_goto (tgt := 23) hx hb dL_law_2492 (by decide) ?_
      exact W.widen (k := 40 + 10 * (i + 1)) (n := 70000 + 1200 * (i + 1)) (by omega) (by omega) (ih _ _ _ (li_end hou9 ⟨_, hO⟩ hM2 hp hn hC2 hi (by omega)) hS (lv_sub hl [3, 4, 5, 6, 0] rfl))
  · have hC2 := hP.same (fun q g1 g2 => q8 q g1 (fun h => g2.2.1 h))
    have hO := x_kept hO (q8 _ (q_lt hO) (fun h => absurd h.2 (Nat.lt_irrefl _)))
    have hp := hne hk
    refine lv_iload hx hb dL_law_959 (lv_at hl 1 rfl) ?_
    refine lv_if_ne (tgt := 983) hx hb dL_law_961 (by decide) (fun _ => ?_) (fun q => absurd q hk)
    refine lv_goto (tgt := 2489) hx hb dL_law_983 (by decide) ?_
    refine lv_iinc (v := (nI (7 * (i + 1)))) (lv' := [(4, .int (nI (7 * (i + 1)))), (6, .int y), (5, .int (kCe nL (xs (7 * i + 1)) (xs (7 * i + 2)))), (0, .ref b), (1, .ref o), (2, .ref M), (3, .ref ou)]) hx hb dL_law_2489 hl (k := 6) rfl (ni_inc7 i) (by decide) rfl (fun ls hl => ?_)
    refine lv_goto (tgt := 23) hx hb dL_law_2492 (by decide) ?_
    exact W.widen (k := 40 + 10 * (i + 1)) (n := 70000 + 1200 * (i + 1)) (by omega) (by omega) (ih _ _ _ (li_end hou9 ⟨_, hO⟩ hM2 hp hn hC2 hi (by omega)) hS (lv_sub hl [3, 4, 5, 6, 0] rfl))
set_option maxHeartbeats 4000000 in
set_option maxRecDepth 100000 in
theorem lw_c12 {p : Program} {l : Launch} {e : Env} {s : State} {m : MethodId} {below : List Frame} {meth : Method} {c : Code} {b L : Nat} {xs : Nat → Int32} {Q : State → Prop} (hx : p.tables.exec = Jvm.exec) (hb : c.code = cL_law) (hml : c.maxLocals = 8) (hown : s.vm.findClass RL = some m.cls) (hts : ∀ w ∈ wsL_law, w.before #[Value.ref b] s = true) {D : va_G} {cA : Nat → ClassId} (hK : xK D cA s) {z o M h1 ou : Nat} {ad : Nat → Nat} (hX : lK (fun q => s.heap.size ≤ q) z s) (hXs : va_X b L xs s s.heap) (hbl : b < s.heap.size) (hL : L ≤ 3584) (hst : l.stackTraces = false) (h01 : s.heap.size ≤ h1) (h1u : h1 ≤ ou) {i : Nat} (hi9 : 7 * i + 7 ≤ L) {H : Heap} {locs : List Loc} {ls : Array Slot} (hI : LI D cA s.heap.size h1 ou z o M ad i H) (hS : va_S (fun q => s.heap.size ≤ q) s.heap H locs) (hl : lv_has ls 8 [(0, .ref b), (1, .ref o), (2, .ref M), (3, .ref ou), (4, .int (nI (7 * i)))]) (ih : ∀ (H2 : Heap) (locs2 : List Loc) (ls2 : Array Slot), LI D cA s.heap.size h1 ou z o M ad (i + 1) H2 → va_S (fun q => s.heap.size ≤ q) s.heap H2 locs2 → lv_has ls2 8 [(0, .ref b), (1, .ref o), (2, .ref M), (3, .ref ou), (4, .int (nI (7 * (i + 1))))] → W p l e room_1 s m #[Value.ref b] below meth c H2 locs2 (40 + 10 * (i + 1)) (70000 + 1200 * (i + 1)) Q (F0 m 23 ls2 [])) : W p l e room_1 s m #[Value.ref b] below meth c H locs (40 + 10 * i) (70000 + 1200 * i) Q (F0 m 986 ls []) := by
  obtain ⟨hou9, ⟨o1, hO⟩, σ, nC, nL, nV, hM, hn, hC, hi, hv⟩ := hI
  have hi5 : i ≤ 511 := by omega
  refine lv_aload_n hx hb dL_law_986 rfl (lv_at hl 1 rfl) ?_
  refine lv_aload_n hx hb dL_law_987 rfl (lv_at hl 0 rfl) ?_
  refine lv_iload hx hb dL_law_988 (lv_at hl 4 rfl) ?_
  refine lv_iconst (v := 1) hx hb dL_law_990 (by decide) ?_
  refine xe_iadd hx hb (nI_add (7 * i) 1) dL_law_991 ?_
  refine va_sld hx hb hXs hbl (Nat.not_le.mpr hbl) hS (vp_in_nI (show 7 * i + 1 < L by omega) (by omega)) dL_law_992 ?_
  rw [nI_clamp (show 7 * i + 1 < 2 ^ 31 by omega)]
  refine lv_aload_n hx hb dL_law_993 rfl (lv_at hl 0 rfl) ?_
  refine lv_iload hx hb dL_law_994 (lv_at hl 4 rfl) ?_
  refine lv_iconst (v := 2) hx hb dL_law_996 (by decide) ?_
  refine xe_iadd hx hb (nI_add (7 * i) 2) dL_law_997 ?_
  refine va_sld hx hb hXs hbl (Nat.not_le.mpr hbl) hS (vp_in_nI (show 7 * i + 2 < L by omega) (by omega)) dL_law_998 ?_
  rw [nI_clamp (show 7 * i + 2 < 2 ^ 31 by omega)]
  refine lv_aload_n hx hb dL_law_999 rfl (lv_at hl 0 rfl) ?_
  refine lv_iload hx hb dL_law_1000 (lv_at hl 4 rfl) ?_
  refine lv_iconst (v := 3) hx hb dL_law_1002 (by decide) ?_
  refine xe_iadd hx hb (nI_add (7 * i) 3) dL_law_1003 ?_
  refine va_sld hx hb hXs hbl (Nat.not_le.mpr hbl) hS (vp_in_nI (show 7 * i + 3 < L by omega) (by omega)) dL_law_1004 ?_
  rw [nI_clamp (show 7 * i + 3 < 2 ^ 31 by omega)]
  refine lv_aload_n hx hb dL_law_1005 rfl (lv_at hl 0 rfl) ?_
  refine lv_iload hx hb dL_law_1006 (lv_at hl 4 rfl) ?_
  refine lv_iconst (v := 4) hx hb dL_law_1008 (by decide) ?_
  refine xe_iadd hx hb (nI_add (7 * i) 4) dL_law_1009 ?_
  refine va_sld hx hb hXs hbl (Nat.not_le.mpr hbl) hS (vp_in_nI (show 7 * i + 4 < L by omega) (by omega)) dL_law_1010 ?_
  rw [nI_clamp (show 7 * i + 4 < 2 ^ 31 by omega)]
  have hAn : ∀ q, H.size ≤ q → aC s.heap.size h1 ou q := fun q h => ⟨by have := hS.1; omega, by omega, by omega⟩
  have hBA : ∀ q, (aC s.heap.size h1 ou q ∨ False) → s.heap.size ≤ q := fun q h => h.elim (fun h => h.1) (fun e => e.elim)
  refine xl_lcall0 (vx_runSW (As := [.ref o, .int (xs (7 * i + 1)), .int (xs (7 * i + 2)), .int (xs (7 * i + 3)), .int (xs (7 * i + 4))]) (rest := []) ⟨hx, hb, hml, hown, hts⟩ (c_L_roll l hst D cA (aC s.heap.size h1 ou) z o σ.2.1 nC nL nV hi H (xs (7 * i + 1)) (xs (7 * i + 2)) (xs (7 * i + 3)) (xs (7 * i + 4)) hAn) (vx_cwSW 5 hts gL_law_L_roll rfl rfl rfl (by decide +kernel) ⟨(Nat.le_of_ble_eq_true rfl), (Nat.le_of_ble_eq_true rfl)⟩) (xPXS hK lK.blind (fun U hU hW => hX.at hS hBA hU hW) ⟨rfl, hC⟩) rfl rfl hl.1 rfl (lv_room (Nat.le_of_ble_eq_true rfl)) dL_law_1011 ⟨by show 40 + 10 * i + 5 ≤ 601024; omega, by show 70000 + 1200 * i + 24 ≤ 7293034; omega⟩) hS (fun q _ h => hBA q h) (fun q h => hBA q h) (fun H locs hJ z9 q9 hS => ?_)
  have hM := hM.keptA (fun q g1 g2 => q9 q g1 (fun h => h.elim (fun h => h.2.1 g2) (fun e => e.elim)))
  have hO := x_kept hO (q9 _ (q_lt hO) (fun h => h.elim (fun h => h.2.2 rfl) (fun e => e.elim)))
  have hou9 : ou < H.size := Nat.lt_of_lt_of_le hou9 z9
  refine lv_istore (lv' := [(5, .int (wrF (mS σ.2.1) nL (xs (7 * i + 1)) (xs (7 * i + 2)) (okB (xs (7 * i + 3))) (xs (7 * i + 4)) false)), (0, .ref b), (1, .ref o), (2, .ref M), (3, .ref ou), (4, .int (nI (7 * i)))]) hx hb dL_law_1014 hl (by decide) rfl (fun ls hl => ?_)
  refine lv_aload_n hx hb dL_law_1016 rfl (lv_at hl 3 rfl) ?_
  refine lv_aload_n hx hb dL_law_1017 rfl (lv_at hl 1 rfl) ?_
  refine lv_iload hx hb dL_law_1018 (lv_at hl 5 rfl) ?_
  refine lv_iconst (v := 1) hx hb dL_law_1020 (by decide) ?_
  refine xe_iadd hx hb (nI_add (7 * i) 1) dL_law_1021 ?_
  refine va_sld hx hb hXs hbl (Nat.not_le.mpr hbl) hS (vp_in_nI (show 7 * i + 1 < L by omega) (by omega)) dL_law_1022 ?_
  rw [nI_clamp (show 7 * i + 1 < 2 ^ 31 by omega)]
  refine lv_aload_n hx hb dL_law_1023 rfl (lv_at hl 1 rfl) ?_
  refine lv_iload hx hb dL_law_1024 (lv_at hl 5 rfl) ?_
  refine lv_iconst (v := 2) hx hb dL_law_1026 (by decide) ?_
  refine xe_iadd hx hb (nI_add (7 * i) 2) dL_law_1027 ?_
  refine va_sld hx hb hXs hbl (Nat.not_le.mpr hbl) hS (vp_in_nI (show 7 * i + 2 < L by omega) (by omega)) dL_law_1028 ?_
  rw [nI_clamp (show 7 * i + 2 < 2 ^ 31 by omega)]
  refine lv_aload_n hx hb dL_law_1029 rfl (lv_at hl 1 rfl) ?_
  refine lv_iload hx hb dL_law_1030 (lv_at hl 5 rfl) ?_
  refine lv_iconst (v := 3) hx hb dL_law_1032 (by decide) ?_
  refine xe_iadd hx hb (nI_add (7 * i) 3) dL_law_1033 ?_
  refine va_sld hx hb hXs hbl (Nat.not_le.mpr hbl) hS (vp_in_nI (show 7 * i + 3 < L by omega) (by omega)) dL_law_1034 ?_
  rw [nI_clamp (show 7 * i + 3 < 2 ^ 31 by omega)]
  refine lv_aload_n hx hb dL_law_1035 rfl (lv_at hl 1 rfl) ?_
  refine lv_iload hx hb dL_law_1036 (lv_at hl 5 rfl) ?_
  refine lv_iconst (v := 4) hx hb dL_law_1038 (by decide) ?_
  refine xe_iadd hx hb (nI_add (7 * i) 4) dL_law_1039 ?_
  refine va_sld hx hb hXs hbl (Nat.not_le.mpr hbl) hS (vp_in_nI (show 7 * i + 4 < L by omega) (by omega)) dL_law_1040 ?_
  rw [nI_clamp (show 7 * i + 4 < 2 ^ 31 by omega)]
  have hMA : ∀ q, aM h1 ou q → s.heap.size ≤ q := fun q h => Nat.le_trans h01 h.1
  refine xl_mvoid (va_runV (As := [.int (xs (7 * i + 1)), .int (xs (7 * i + 2)), .int (xs (7 * i + 3)), .int (xs (7 * i + 4))]) (rest := []) ⟨hx, hb, hml, hown, hts⟩ (c_X7_roll l D cA (aM h1 ou) M ad σ (xs (7 * i + 1)) (xs (7 * i + 2)) (xs (7 * i + 3)) (xs (7 * i + 4)) nL hn.2.1 hi.2.1) (cwV 4 hts gL_law_X7_roll rfl rfl rfl (by decide +kernel) ⟨(Nat.le_of_ble_eq_true rfl), (Nat.le_of_ble_eq_true rfl)⟩) (xPV hK hM.1 rfl hM) rfl rfl hl.1 rfl (lv_room (Nat.le_of_ble_eq_true rfl)) dL_law_1041 ⟨by show 40 + 10 * i + 5 + 0 ≤ 601024; omega, by show 70000 + 1200 * i + 24 + 0 ≤ 7293034; omega⟩) hS (fun q _ h => hMA q h) (fun q h => hMA q h) (fun σ2 H locs hM2 ht hne heq z8 q8 hS => ?_)
  have hou9 : ou < H.size := Nat.lt_of_lt_of_le hou9 z8
  refine lv_aload_n hx hb dL_law_1044 rfl (lv_at hl 3 rfl) ?_
  refine xr_call (va_runV (As := []) (rest := []) ⟨hx, hb, hml, hown, hts⟩ (c_X7_thrown l D cA (aM h1 ou) M ad σ2) (cwV 0 hts gL_law_X7_thrown rfl rfl rfl (by decide +kernel) ⟨(Nat.le_of_ble_eq_true rfl), (Nat.le_of_ble_eq_true rfl)⟩) (xPV hK hM2.1 rfl hM2) rfl rfl hl.1 rfl (lv_room (Nat.le_of_ble_eq_true rfl)) dL_law_1045 ⟨by show 40 + 10 * i + 5 + 0 + 0 ≤ 601024; omega, by show 70000 + 1200 * i + 24 + 0 + 0 ≤ 7293034; omega⟩) ?_
  refine xe_top (y := (wrF (mS σ.2.1) nL (xs (7 * i + 1)) (xs (7 * i + 2)) (okB (xs (7 * i + 3))) (xs (7 * i + 4)) false)) (show σ2.1 25 = (wrF (mS σ.2.1) nL (xs (7 * i + 1)) (xs (7 * i + 2)) (okB (xs (7 * i + 3))) (xs (7 * i + 4)) false) from ht) ?_
  refine lv_iload hx hb dL_law_1048 (lv_at hl 0 rfl) ?_
  refine lv_icmp_eq (tgt := 1055) hx hb dL_law_1050 (by decide) (fun _ => ?_) (fun q => absurd rfl q)
  rcases hJ with ⟨hk, hP⟩ | ⟨hk, hP⟩
  · have hC2 := hP.same (fun q g1 g2 => q8 q g1 (fun h => g2.2.1 h))
    have hO := x_kept hO (q8 _ (q_lt hO) (fun h => absurd h.2 (Nat.lt_irrefl _)))
    have hp := heq hk
    refine lv_goto (tgt := 2489) hx hb dL_law_1055 (by decide) ?_
    refine lv_iinc (v := (nI (7 * (i + 1)))) (lv' := [(4, .int (nI (7 * (i + 1)))), (5, .int (wrF (mS σ.2.1) nL (xs (7 * i + 1)) (xs (7 * i + 2)) (okB (xs (7 * i + 3))) (xs (7 * i + 4)) false)), (0, .ref b), (1, .ref o), (2, .ref M), (3, .ref ou)]) hx hb dL_law_2489 hl (k := 5) rfl (ni_inc7 i) (by decide) rfl (fun ls hl => ?_)
    refine lv_goto (tgt := 23) hx hb dL_law_2492 (by decide) ?_
    exact W.widen (k := 40 + 10 * (i + 1)) (n := 70000 + 1200 * (i + 1)) (by omega) (by omega) (ih _ _ _ (li_end hou9 ⟨_, hO⟩ hM2 hp hn hC2 (hi.rl (cl_lt hi.2.1 (wrF_0 hk).1 (wrF_0 hk).2.1) (gdE_enc ⟨(wrF_0 hk).2.2.1, Or.inl ⟨rfl, rfl⟩⟩)) (by omega)) hS (lv_sub hl [2, 3, 4, 5, 0] rfl))
  · have hC2 := hP.same (fun q g1 g2 => q8 q g1 (fun h => g2.2.1 h))
    have hO := x_kept hO (q8 _ (q_lt hO) (fun h => absurd h.2 (Nat.lt_irrefl _)))
    have hp := hne hk
    refine lv_goto (tgt := 2489) hx hb dL_law_1055 (by decide) ?_
    refine lv_iinc (v := (nI (7 * (i + 1)))) (lv' := [(4, .int (nI (7 * (i + 1)))), (5, .int (wrF (mS σ.2.1) nL (xs (7 * i + 1)) (xs (7 * i + 2)) (okB (xs (7 * i + 3))) (xs (7 * i + 4)) false)), (0, .ref b), (1, .ref o), (2, .ref M), (3, .ref ou)]) hx hb dL_law_2489 hl (k := 5) rfl (ni_inc7 i) (by decide) rfl (fun ls hl => ?_)
    refine lv_goto (tgt := 23) hx hb dL_law_2492 (by decide) ?_
    exact W.widen (k := 40 + 10 * (i + 1)) (n := 70000 + 1200 * (i + 1)) (by omega) (by omega) (ih _ _ _ (li_end hou9 ⟨_, hO⟩ hM2 hp hn hC2 hi (by omega)) hS (lv_sub hl [2, 3, 4, 5, 0] rfl))
set_option maxHeartbeats 4000000 in
set_option maxRecDepth 100000 in
theorem lw_c13 {p : Program} {l : Launch} {e : Env} {s : State} {m : MethodId} {below : List Frame} {meth : Method} {c : Code} {b L : Nat} {xs : Nat → Int32} {Q : State → Prop} (hx : p.tables.exec = Jvm.exec) (hb : c.code = cL_law) (hml : c.maxLocals = 8) (hown : s.vm.findClass RL = some m.cls) (hts : ∀ w ∈ wsL_law, w.before #[Value.ref b] s = true) {D : va_G} {cA : Nat → ClassId} (hK : xK D cA s) {z o M h1 ou : Nat} {ad : Nat → Nat} (hX : lK (fun q => s.heap.size ≤ q) z s) (hXs : va_X b L xs s s.heap) (hbl : b < s.heap.size) (hL : L ≤ 3584) (hst : l.stackTraces = false) (h01 : s.heap.size ≤ h1) (h1u : h1 ≤ ou) {i : Nat} (hi9 : 7 * i + 7 ≤ L) {H : Heap} {locs : List Loc} {ls : Array Slot} (hI : LI D cA s.heap.size h1 ou z o M ad i H) (hS : va_S (fun q => s.heap.size ≤ q) s.heap H locs) (hl : lv_has ls 8 [(0, .ref b), (1, .ref o), (2, .ref M), (3, .ref ou), (4, .int (nI (7 * i)))]) (ih : ∀ (H2 : Heap) (locs2 : List Loc) (ls2 : Array Slot), LI D cA s.heap.size h1 ou z o M ad (i + 1) H2 → va_S (fun q => s.heap.size ≤ q) s.heap H2 locs2 → lv_has ls2 8 [(0, .ref b), (1, .ref o), (2, .ref M), (3, .ref ou), (4, .int (nI (7 * (i + 1))))] → W p l e room_1 s m #[Value.ref b] below meth c H2 locs2 (40 + 10 * (i + 1)) (70000 + 1200 * (i + 1)) Q (F0 m 23 ls2 [])) : W p l e room_1 s m #[Value.ref b] below meth c H locs (40 + 10 * i) (70000 + 1200 * i) Q (F0 m 1058 ls []) := by
  obtain ⟨hou9, ⟨o1, hO⟩, σ, nC, nL, nV, hM, hn, hC, hi, hv⟩ := hI
  have hi5 : i ≤ 511 := by omega
  refine lv_aload_n hx hb dL_law_1058 rfl (lv_at hl 1 rfl) ?_
  refine lv_aload_n hx hb dL_law_1059 rfl (lv_at hl 0 rfl) ?_
  refine lv_iload hx hb dL_law_1060 (lv_at hl 4 rfl) ?_
  refine lv_iconst (v := 1) hx hb dL_law_1062 (by decide) ?_
  refine xe_iadd hx hb (nI_add (7 * i) 1) dL_law_1063 ?_
  refine va_sld hx hb hXs hbl (Nat.not_le.mpr hbl) hS (vp_in_nI (show 7 * i + 1 < L by omega) (by omega)) dL_law_1064 ?_
  rw [nI_clamp (show 7 * i + 1 < 2 ^ 31 by omega)]
  refine lv_aload_n hx hb dL_law_1065 rfl (lv_at hl 0 rfl) ?_
  refine lv_iload hx hb dL_law_1066 (lv_at hl 4 rfl) ?_
  refine lv_iconst (v := 2) hx hb dL_law_1068 (by decide) ?_
  refine xe_iadd hx hb (nI_add (7 * i) 2) dL_law_1069 ?_
  refine va_sld hx hb hXs hbl (Nat.not_le.mpr hbl) hS (vp_in_nI (show 7 * i + 2 < L by omega) (by omega)) dL_law_1070 ?_
  rw [nI_clamp (show 7 * i + 2 < 2 ^ 31 by omega)]
  refine lv_aload_n hx hb dL_law_1071 rfl (lv_at hl 0 rfl) ?_
  refine lv_iload hx hb dL_law_1072 (lv_at hl 4 rfl) ?_
  refine lv_iconst (v := 3) hx hb dL_law_1074 (by decide) ?_
  refine xe_iadd hx hb (nI_add (7 * i) 3) dL_law_1075 ?_
  refine va_sld hx hb hXs hbl (Nat.not_le.mpr hbl) hS (vp_in_nI (show 7 * i + 3 < L by omega) (by omega)) dL_law_1076 ?_
  rw [nI_clamp (show 7 * i + 3 < 2 ^ 31 by omega)]
  refine lv_aload_n hx hb dL_law_1077 rfl (lv_at hl 0 rfl) ?_
  refine lv_iload hx hb dL_law_1078 (lv_at hl 4 rfl) ?_
  refine lv_iconst (v := 4) hx hb dL_law_1080 (by decide) ?_
  refine xe_iadd hx hb (nI_add (7 * i) 4) dL_law_1081 ?_
  refine va_sld hx hb hXs hbl (Nat.not_le.mpr hbl) hS (vp_in_nI (show 7 * i + 4 < L by omega) (by omega)) dL_law_1082 ?_
  rw [nI_clamp (show 7 * i + 4 < 2 ^ 31 by omega)]
  refine lv_aload_n hx hb dL_law_1083 rfl (lv_at hl 0 rfl) ?_
  refine lv_iload hx hb dL_law_1084 (lv_at hl 4 rfl) ?_
  refine lv_iconst (v := 5) hx hb dL_law_1086 (by decide) ?_
  refine xe_iadd hx hb (nI_add (7 * i) 5) dL_law_1087 ?_
  refine va_sld hx hb hXs hbl (Nat.not_le.mpr hbl) hS (vp_in_nI (show 7 * i + 5 < L by omega) (by omega)) dL_law_1088 ?_
  rw [nI_clamp (show 7 * i + 5 < 2 ^ 31 by omega)]
  refine lv_aload_n hx hb dL_law_1089 rfl (lv_at hl 0 rfl) ?_
  refine lv_iload hx hb dL_law_1090 (lv_at hl 4 rfl) ?_
  refine lv_bipush (v := 6) hx hb dL_law_1092 (by decide) ?_
  refine xe_iadd hx hb (nI_add (7 * i) 6) dL_law_1094 ?_
  refine va_sld hx hb hXs hbl (Nat.not_le.mpr hbl) hS (vp_in_nI (show 7 * i + 6 < L by omega) (by omega)) dL_law_1095 ?_
  rw [nI_clamp (show 7 * i + 6 < 2 ^ 31 by omega)]
  have hAn : ∀ q, H.size ≤ q → aC s.heap.size h1 ou q := fun q h => ⟨by have := hS.1; omega, by omega, by omega⟩
  have hBA : ∀ q, (aC s.heap.size h1 ou q ∨ False) → s.heap.size ≤ q := fun q h => h.elim (fun h => h.1) (fun e => e.elim)
  refine xl_lcall0 (vx_runSW (As := [.ref o, .int (xs (7 * i + 1)), .int (xs (7 * i + 2)), .int (xs (7 * i + 3)), .int (xs (7 * i + 4)), .int (xs (7 * i + 5)), .int (xs (7 * i + 6))]) (rest := []) ⟨hx, hb, hml, hown, hts⟩ (c_L_rollTemplate l hst D cA (aC s.heap.size h1 ou) z o σ.2.1 nC nL nV hi H (xs (7 * i + 1)) (xs (7 * i + 2)) (xs (7 * i + 3)) (xs (7 * i + 4)) (xs (7 * i + 5)) (xs (7 * i + 6)) hAn) (vx_cwSW 7 hts gL_law_L_rollTemplate rfl rfl rfl (by decide +kernel) ⟨(Nat.le_of_ble_eq_true rfl), (Nat.le_of_ble_eq_true rfl)⟩) (xPXS hK lK.blind (fun U hU hW => hX.at hS hBA hU hW) ⟨rfl, hC⟩) rfl rfl hl.1 rfl (lv_room (Nat.le_of_ble_eq_true rfl)) dL_law_1096 ⟨by show 40 + 10 * i + 5 ≤ 601024; omega, by show 70000 + 1200 * i + 24 ≤ 7293034; omega⟩) hS (fun q _ h => hBA q h) (fun q h => hBA q h) (fun H locs hJ z9 q9 hS => ?_)
  have hM := hM.keptA (fun q g1 g2 => q9 q g1 (fun h => h.elim (fun h => h.2.1 g2) (fun e => e.elim)))
  have hO := x_kept hO (q9 _ (q_lt hO) (fun h => h.elim (fun h => h.2.2 rfl) (fun e => e.elim)))
  have hou9 : ou < H.size := Nat.lt_of_lt_of_le hou9 z9
  refine lv_istore (lv' := [(5, .int (wrF (mS σ.2.1) nL (xs (7 * i + 1)) (xs (7 * i + 2)) (okB (xs (7 * i + 3)) && okT (xs (7 * i + 4)) (xs (7 * i + 5))) (xs (7 * i + 6)) false)), (0, .ref b), (1, .ref o), (2, .ref M), (3, .ref ou), (4, .int (nI (7 * i)))]) hx hb dL_law_1099 hl (by decide) rfl (fun ls hl => ?_)
  refine lv_aload_n hx hb dL_law_1101 rfl (lv_at hl 3 rfl) ?_
  refine lv_aload_n hx hb dL_law_1102 rfl (lv_at hl 1 rfl) ?_
  refine lv_iload hx hb dL_law_1103 (lv_at hl 5 rfl) ?_
  refine lv_iconst (v := 1) hx hb dL_law_1105 (by decide) ?_
  refine xe_iadd hx hb (nI_add (7 * i) 1) dL_law_1106 ?_
  refine va_sld hx hb hXs hbl (Nat.not_le.mpr hbl) hS (vp_in_nI (show 7 * i + 1 < L by omega) (by omega)) dL_law_1107 ?_
  rw [nI_clamp (show 7 * i + 1 < 2 ^ 31 by omega)]
  refine lv_aload_n hx hb dL_law_1108 rfl (lv_at hl 1 rfl) ?_
  refine lv_iload hx hb dL_law_1109 (lv_at hl 5 rfl) ?_
  refine lv_iconst (v := 2) hx hb dL_law_1111 (by decide) ?_
  refine xe_iadd hx hb (nI_add (7 * i) 2) dL_law_1112 ?_
  refine va_sld hx hb hXs hbl (Nat.not_le.mpr hbl) hS (vp_in_nI (show 7 * i + 2 < L by omega) (by omega)) dL_law_1113 ?_
  rw [nI_clamp (show 7 * i + 2 < 2 ^ 31 by omega)]
  refine lv_aload_n hx hb dL_law_1114 rfl (lv_at hl 1 rfl) ?_
  refine lv_iload hx hb dL_law_1115 (lv_at hl 5 rfl) ?_
  refine lv_iconst (v := 3) hx hb dL_law_1117 (by decide) ?_
  refine xe_iadd hx hb (nI_add (7 * i) 3) dL_law_1118 ?_
  refine va_sld hx hb hXs hbl (Nat.not_le.mpr hbl) hS (vp_in_nI (show 7 * i + 3 < L by omega) (by omega)) dL_law_1119 ?_
  rw [nI_clamp (show 7 * i + 3 < 2 ^ 31 by omega)]
  refine lv_aload_n hx hb dL_law_1120 rfl (lv_at hl 1 rfl) ?_
  refine lv_iload hx hb dL_law_1121 (lv_at hl 5 rfl) ?_
  refine lv_iconst (v := 4) hx hb dL_law_1123 (by decide) ?_
  refine xe_iadd hx hb (nI_add (7 * i) 4) dL_law_1124 ?_
  refine va_sld hx hb hXs hbl (Nat.not_le.mpr hbl) hS (vp_in_nI (show 7 * i + 4 < L by omega) (by omega)) dL_law_1125 ?_
  rw [nI_clamp (show 7 * i + 4 < 2 ^ 31 by omega)]
  refine lv_aload_n hx hb dL_law_1126 rfl (lv_at hl 1 rfl) ?_
  refine lv_iload hx hb dL_law_1127 (lv_at hl 5 rfl) ?_
  refine lv_iconst (v := 5) hx hb dL_law_1129 (by decide) ?_
  refine xe_iadd hx hb (nI_add (7 * i) 5) dL_law_1130 ?_
  refine va_sld hx hb hXs hbl (Nat.not_le.mpr hbl) hS (vp_in_nI (show 7 * i + 5 < L by omega) (by omega)) dL_law_1131 ?_
  rw [nI_clamp (show 7 * i + 5 < 2 ^ 31 by omega)]
  refine lv_aload_n hx hb dL_law_1132 rfl (lv_at hl 1 rfl) ?_
  refine lv_iload hx hb dL_law_1133 (lv_at hl 5 rfl) ?_
  refine lv_bipush (v := 6) hx hb dL_law_1135 (by decide) ?_
  refine xe_iadd hx hb (nI_add (7 * i) 6) dL_law_1137 ?_
  refine va_sld hx hb hXs hbl (Nat.not_le.mpr hbl) hS (vp_in_nI (show 7 * i + 6 < L by omega) (by omega)) dL_law_1138 ?_
  rw [nI_clamp (show 7 * i + 6 < 2 ^ 31 by omega)]
  have hMA : ∀ q, aM h1 ou q → s.heap.size ≤ q := fun q h => Nat.le_trans h01 h.1
  refine xl_mvoid (va_runV (As := [.int (xs (7 * i + 1)), .int (xs (7 * i + 2)), .int (xs (7 * i + 3)), .int (xs (7 * i + 4)), .int (xs (7 * i + 5)), .int (xs (7 * i + 6))]) (rest := []) ⟨hx, hb, hml, hown, hts⟩ (c_X7_rollTemplate l D cA (aM h1 ou) M ad σ (xs (7 * i + 1)) (xs (7 * i + 2)) (xs (7 * i + 3)) (xs (7 * i + 4)) (xs (7 * i + 5)) (xs (7 * i + 6)) nL hn.2.1 hi.2.1) (cwV 6 hts gL_law_X7_rollTemplate rfl rfl rfl (by decide +kernel) ⟨(Nat.le_of_ble_eq_true rfl), (Nat.le_of_ble_eq_true rfl)⟩) (xPV hK hM.1 rfl hM) rfl rfl hl.1 rfl (lv_room (Nat.le_of_ble_eq_true rfl)) dL_law_1139 ⟨by show 40 + 10 * i + 5 + 0 ≤ 601024; omega, by show 70000 + 1200 * i + 24 + 0 ≤ 7293034; omega⟩) hS (fun q _ h => hMA q h) (fun q h => hMA q h) (fun σ2 H locs hM2 ht hne heq z8 q8 hS => ?_)
  have hou9 : ou < H.size := Nat.lt_of_lt_of_le hou9 z8
  refine lv_aload_n hx hb dL_law_1142 rfl (lv_at hl 3 rfl) ?_
  refine xr_call (va_runV (As := []) (rest := []) ⟨hx, hb, hml, hown, hts⟩ (c_X7_thrown l D cA (aM h1 ou) M ad σ2) (cwV 0 hts gL_law_X7_thrown rfl rfl rfl (by decide +kernel) ⟨(Nat.le_of_ble_eq_true rfl), (Nat.le_of_ble_eq_true rfl)⟩) (xPV hK hM2.1 rfl hM2) rfl rfl hl.1 rfl (lv_room (Nat.le_of_ble_eq_true rfl)) dL_law_1143 ⟨by show 40 + 10 * i + 5 + 0 + 0 ≤ 601024; omega, by show 70000 + 1200 * i + 24 + 0 + 0 ≤ 7293034; omega⟩) ?_
  refine xe_top (y := (wrF (mS σ.2.1) nL (xs (7 * i + 1)) (xs (7 * i + 2)) (okB (xs (7 * i + 3)) && okT (xs (7 * i + 4)) (xs (7 * i + 5))) (xs (7 * i + 6)) false)) (show σ2.1 25 = (wrF (mS σ.2.1) nL (xs (7 * i + 1)) (xs (7 * i + 2)) (okB (xs (7 * i + 3)) && okT (xs (7 * i + 4)) (xs (7 * i + 5))) (xs (7 * i + 6)) false) from ht) ?_
  refine lv_iload hx hb dL_law_1146 (lv_at hl 0 rfl) ?_
  refine lv_icmp_eq (tgt := 1153) hx hb dL_law_1148 (by decide) (fun _ => ?_) (fun q => absurd rfl q)
  rcases hJ with ⟨hk, hP⟩ | ⟨hk, hP⟩
  · have hC2 := hP.same (fun q g1 g2 => q8 q g1 (fun h => g2.2.1 h))
    have hO := x_kept hO (q8 _ (q_lt hO) (fun h => absurd h.2 (Nat.lt_irrefl _)))
    have hp := heq hk
    refine lv_goto (tgt := 2489) hx hb dL_law_1153 (by decide) ?_
    refine lv_iinc (v := (nI (7 * (i + 1)))) (lv' := [(4, .int (nI (7 * (i + 1)))), (5, .int (wrF (mS σ.2.1) nL (xs (7 * i + 1)) (xs (7 * i + 2)) (okB (xs (7 * i + 3)) && okT (xs (7 * i + 4)) (xs (7 * i + 5))) (xs (7 * i + 6)) false)), (0, .ref b), (1, .ref o), (2, .ref M), (3, .ref ou)]) hx hb dL_law_2489 hl (k := 5) rfl (ni_inc7 i) (by decide) rfl (fun ls hl => ?_)
    refine lv_goto (tgt := 23) hx hb dL_law_2492 (by decide) ?_
    exact W.widen (k := 40 + 10 * (i + 1)) (n := 70000 + 1200 * (i + 1)) (by omega) (by omega) (ih _ _ _ (li_end hou9 ⟨_, hO⟩ hM2 hp hn hC2 (hi.rl (cl_lt hi.2.1 (wrF_0 hk).1 (wrF_0 hk).2.1) (gdE_enc (gdT_of (wrF_0 hk).2.2.1))) (by omega)) hS (lv_sub hl [2, 3, 4, 5, 0] rfl))
  · have hC2 := hP.same (fun q g1 g2 => q8 q g1 (fun h => g2.2.1 h))
    have hO := x_kept hO (q8 _ (q_lt hO) (fun h => absurd h.2 (Nat.lt_irrefl _)))
    have hp := hne hk
    refine lv_goto (tgt := 2489) hx hb dL_law_1153 (by decide) ?_
    refine lv_iinc (v := (nI (7 * (i + 1)))) (lv' := [(4, .int (nI (7 * (i + 1)))), (5, .int (wrF (mS σ.2.1) nL (xs (7 * i + 1)) (xs (7 * i + 2)) (okB (xs (7 * i + 3)) && okT (xs (7 * i + 4)) (xs (7 * i + 5))) (xs (7 * i + 6)) false)), (0, .ref b), (1, .ref o), (2, .ref M), (3, .ref ou)]) hx hb dL_law_2489 hl (k := 5) rfl (ni_inc7 i) (by decide) rfl (fun ls hl => ?_)
    refine lv_goto (tgt := 23) hx hb dL_law_2492 (by decide) ?_
    exact W.widen (k := 40 + 10 * (i + 1)) (n := 70000 + 1200 * (i + 1)) (by omega) (by omega) (ih _ _ _ (li_end hou9 ⟨_, hO⟩ hM2 hp hn hC2 hi (by omega)) hS (lv_sub hl [2, 3, 4, 5, 0] rfl))
set_option maxHeartbeats 4000000 in
set_option maxRecDepth 100000 in
theorem lw_c14 {p : Program} {l : Launch} {e : Env} {s : State} {m : MethodId} {below : List Frame} {meth : Method} {c : Code} {b L : Nat} {xs : Nat → Int32} {Q : State → Prop} (hx : p.tables.exec = Jvm.exec) (hb : c.code = cL_law) (hml : c.maxLocals = 8) (hown : s.vm.findClass RL = some m.cls) (hts : ∀ w ∈ wsL_law, w.before #[Value.ref b] s = true) {D : va_G} {cA : Nat → ClassId} (hK : xK D cA s) {z o M h1 ou : Nat} {ad : Nat → Nat} (hX : lK (fun q => s.heap.size ≤ q) z s) (hXs : va_X b L xs s s.heap) (hbl : b < s.heap.size) (hL : L ≤ 3584) (hst : l.stackTraces = false) (h01 : s.heap.size ≤ h1) (h1u : h1 ≤ ou) {i : Nat} (hi9 : 7 * i + 7 ≤ L) {H : Heap} {locs : List Loc} {ls : Array Slot} (hI : LI D cA s.heap.size h1 ou z o M ad i H) (hS : va_S (fun q => s.heap.size ≤ q) s.heap H locs) (hl : lv_has ls 8 [(0, .ref b), (1, .ref o), (2, .ref M), (3, .ref ou), (4, .int (nI (7 * i)))]) (ih : ∀ (H2 : Heap) (locs2 : List Loc) (ls2 : Array Slot), LI D cA s.heap.size h1 ou z o M ad (i + 1) H2 → va_S (fun q => s.heap.size ≤ q) s.heap H2 locs2 → lv_has ls2 8 [(0, .ref b), (1, .ref o), (2, .ref M), (3, .ref ou), (4, .int (nI (7 * (i + 1))))] → W p l e room_1 s m #[Value.ref b] below meth c H2 locs2 (40 + 10 * (i + 1)) (70000 + 1200 * (i + 1)) Q (F0 m 23 ls2 [])) : W p l e room_1 s m #[Value.ref b] below meth c H locs (40 + 10 * i) (70000 + 1200 * i) Q (F0 m 1156 ls []) := by
  obtain ⟨hou9, ⟨o1, hO⟩, σ, nC, nL, nV, hM, hn, hC, hi, hv⟩ := hI
  have hi5 : i ≤ 511 := by omega
  refine lv_aload_n hx hb dL_law_1156 rfl (lv_at hl 1 rfl) ?_
  refine lv_aload_n hx hb dL_law_1157 rfl (lv_at hl 0 rfl) ?_
  refine lv_iload hx hb dL_law_1158 (lv_at hl 4 rfl) ?_
  refine lv_iconst (v := 1) hx hb dL_law_1160 (by decide) ?_
  refine xe_iadd hx hb (nI_add (7 * i) 1) dL_law_1161 ?_
  refine va_sld hx hb hXs hbl (Nat.not_le.mpr hbl) hS (vp_in_nI (show 7 * i + 1 < L by omega) (by omega)) dL_law_1162 ?_
  rw [nI_clamp (show 7 * i + 1 < 2 ^ 31 by omega)]
  refine lv_aload_n hx hb dL_law_1163 rfl (lv_at hl 0 rfl) ?_
  refine lv_iload hx hb dL_law_1164 (lv_at hl 4 rfl) ?_
  refine lv_iconst (v := 2) hx hb dL_law_1166 (by decide) ?_
  refine xe_iadd hx hb (nI_add (7 * i) 2) dL_law_1167 ?_
  refine va_sld hx hb hXs hbl (Nat.not_le.mpr hbl) hS (vp_in_nI (show 7 * i + 2 < L by omega) (by omega)) dL_law_1168 ?_
  rw [nI_clamp (show 7 * i + 2 < 2 ^ 31 by omega)]
  refine lv_aload_n hx hb dL_law_1169 rfl (lv_at hl 0 rfl) ?_
  refine lv_iload hx hb dL_law_1170 (lv_at hl 4 rfl) ?_
  refine lv_iconst (v := 3) hx hb dL_law_1172 (by decide) ?_
  refine xe_iadd hx hb (nI_add (7 * i) 3) dL_law_1173 ?_
  refine va_sld hx hb hXs hbl (Nat.not_le.mpr hbl) hS (vp_in_nI (show 7 * i + 3 < L by omega) (by omega)) dL_law_1174 ?_
  rw [nI_clamp (show 7 * i + 3 < 2 ^ 31 by omega)]
  refine lv_aload_n hx hb dL_law_1175 rfl (lv_at hl 0 rfl) ?_
  refine lv_iload hx hb dL_law_1176 (lv_at hl 4 rfl) ?_
  refine lv_iconst (v := 4) hx hb dL_law_1178 (by decide) ?_
  refine xe_iadd hx hb (nI_add (7 * i) 4) dL_law_1179 ?_
  refine va_sld hx hb hXs hbl (Nat.not_le.mpr hbl) hS (vp_in_nI (show 7 * i + 4 < L by omega) (by omega)) dL_law_1180 ?_
  rw [nI_clamp (show 7 * i + 4 < 2 ^ 31 by omega)]
  refine lv_aload_n hx hb dL_law_1181 rfl (lv_at hl 3 rfl) ?_
  have hou8 : ¬ aC s.heap.size h1 ou ou := fun h => h.2.2 rfl
  have hAn : ∀ q, H.size ≤ q → aC s.heap.size h1 ou q := fun q h => ⟨by have := hS.1; omega, by omega, by omega⟩
  have hBA : ∀ q, (aC s.heap.size h1 ou q ∨ q = ou) → s.heap.size ≤ q := fun q h => h.elim (fun h => h.1) (fun e => by omega)
  refine xl_lcall (vx_runSW (As := [.ref o, .int (xs (7 * i + 1)), .int (xs (7 * i + 2)), .int (xs (7 * i + 3)), .int (xs (7 * i + 4)), .ref ou]) (rest := []) ⟨hx, hb, hml, hown, hts⟩ (c_L_advance l hst D cA (aC s.heap.size h1 ou) z o ou σ.2.1 nC nL nV hi H (xs (7 * i + 1)) (xs (7 * i + 2)) (xs (7 * i + 3)) (xs (7 * i + 4)) hou8 hAn) (vx_cwSW 6 hts gL_law_L_advance rfl rfl rfl (by decide +kernel) ⟨(Nat.le_of_ble_eq_true rfl), (Nat.le_of_ble_eq_true rfl)⟩) (xPXS hK lK.blind (fun U hU hW => hX.at hS hBA hU hW) ⟨rfl, hC, _, hO⟩) rfl rfl hl.1 rfl (lv_room (Nat.le_of_ble_eq_true rfl)) dL_law_1182 ⟨by show 40 + 10 * i + 8 ≤ 601024; omega, by show 70000 + 1200 * i + 1160 ≤ 7293034; omega⟩) hS (fun q _ h => hBA q h) (fun q h => hBA q h) (fun H locs hJ z9 q9 hS => ?_)
  have hM := hM.keptA (fun q g1 g2 => q9 q g1 (fun h => h.elim (fun h => h.2.1 g2) (fun e => by have := g2.2; omega)))
  have hou9 : ou < H.size := Nat.lt_of_lt_of_le hou9 z9
  refine lv_istore (lv' := [(5, .int (kAd (mS σ.2.1) nL (xs (7 * i + 1)) (xs (7 * i + 2)) (xs (7 * i + 3)) (xs (7 * i + 4)))), (0, .ref b), (1, .ref o), (2, .ref M), (3, .ref ou), (4, .int (nI (7 * i)))]) hx hb dL_law_1185 hl (by decide) rfl (fun ls hl => ?_)
  refine lv_aload_n hx hb dL_law_1187 rfl (lv_at hl 3 rfl) ?_
  refine lv_aload_n hx hb dL_law_1188 rfl (lv_at hl 1 rfl) ?_
  refine lv_iload hx hb dL_law_1189 (lv_at hl 5 rfl) ?_
  refine lv_iconst (v := 1) hx hb dL_law_1191 (by decide) ?_
  refine xe_iadd hx hb (nI_add (7 * i) 1) dL_law_1192 ?_
  refine va_sld hx hb hXs hbl (Nat.not_le.mpr hbl) hS (vp_in_nI (show 7 * i + 1 < L by omega) (by omega)) dL_law_1193 ?_
  rw [nI_clamp (show 7 * i + 1 < 2 ^ 31 by omega)]
  refine lv_aload_n hx hb dL_law_1194 rfl (lv_at hl 1 rfl) ?_
  refine lv_iload hx hb dL_law_1195 (lv_at hl 5 rfl) ?_
  refine lv_iconst (v := 2) hx hb dL_law_1197 (by decide) ?_
  refine xe_iadd hx hb (nI_add (7 * i) 2) dL_law_1198 ?_
  refine va_sld hx hb hXs hbl (Nat.not_le.mpr hbl) hS (vp_in_nI (show 7 * i + 2 < L by omega) (by omega)) dL_law_1199 ?_
  rw [nI_clamp (show 7 * i + 2 < 2 ^ 31 by omega)]
  refine lv_aload_n hx hb dL_law_1200 rfl (lv_at hl 1 rfl) ?_
  refine lv_iload hx hb dL_law_1201 (lv_at hl 5 rfl) ?_
  refine lv_iconst (v := 3) hx hb dL_law_1203 (by decide) ?_
  refine xe_iadd hx hb (nI_add (7 * i) 3) dL_law_1204 ?_
  refine va_sld hx hb hXs hbl (Nat.not_le.mpr hbl) hS (vp_in_nI (show 7 * i + 3 < L by omega) (by omega)) dL_law_1205 ?_
  rw [nI_clamp (show 7 * i + 3 < 2 ^ 31 by omega)]
  refine lv_aload_n hx hb dL_law_1206 rfl (lv_at hl 1 rfl) ?_
  refine lv_iload hx hb dL_law_1207 (lv_at hl 5 rfl) ?_
  refine lv_iconst (v := 4) hx hb dL_law_1209 (by decide) ?_
  refine xe_iadd hx hb (nI_add (7 * i) 4) dL_law_1210 ?_
  refine va_sld hx hb hXs hbl (Nat.not_le.mpr hbl) hS (vp_in_nI (show 7 * i + 4 < L by omega) (by omega)) dL_law_1211 ?_
  rw [nI_clamp (show 7 * i + 4 < 2 ^ 31 by omega)]
  have hMA : ∀ q, aM h1 ou q → s.heap.size ≤ q := fun q h => Nat.le_trans h01 h.1
  refine xl_mint (va_runV (As := [.int (xs (7 * i + 1)), .int (xs (7 * i + 2)), .int (xs (7 * i + 3)), .int (xs (7 * i + 4))]) (rest := []) ⟨hx, hb, hml, hown, hts⟩ (c_X7_advance l D cA (aM h1 ou) M ad σ (xs (7 * i + 1)) (xs (7 * i + 2)) (xs (7 * i + 3)) (xs (7 * i + 4)) nL hn.2.1 hi.2.1 nV hn.2.2 (by omega) nC hn.1 hi.1) (cwV 4 hts gL_law_X7_advance rfl rfl rfl (by decide +kernel) ⟨(Nat.le_of_ble_eq_true rfl), (Nat.le_of_ble_eq_true rfl)⟩) (xPV hK hM.1 rfl hM) rfl rfl hl.1 rfl (lv_room (Nat.le_of_ble_eq_true rfl)) dL_law_1212 ⟨by show 40 + 10 * i + 8 + 0 ≤ 601024; omega, by show 70000 + 1200 * i + 1160 + 0 ≤ 7293034; omega⟩) hS (fun q _ h => hMA q h) (fun q h => hMA q h) (fun y σ2 H locs hM2 ht hne heq z8 q8 hS => ?_)
  have hou9 : ou < H.size := Nat.lt_of_lt_of_le hou9 z8
  refine lv_istore (lv' := [(6, .int y), (5, .int (kAd (mS σ.2.1) nL (xs (7 * i + 1)) (xs (7 * i + 2)) (xs (7 * i + 3)) (xs (7 * i + 4)))), (0, .ref b), (1, .ref o), (2, .ref M), (3, .ref ou), (4, .int (nI (7 * i)))]) hx hb dL_law_1215 hl (by decide) rfl (fun ls hl => ?_)
  refine lv_aload_n hx hb dL_law_1217 rfl (lv_at hl 4 rfl) ?_
  refine xr_call (va_runV (As := []) (rest := []) ⟨hx, hb, hml, hown, hts⟩ (c_X7_thrown l D cA (aM h1 ou) M ad σ2) (cwV 0 hts gL_law_X7_thrown rfl rfl rfl (by decide +kernel) ⟨(Nat.le_of_ble_eq_true rfl), (Nat.le_of_ble_eq_true rfl)⟩) (xPV hK hM2.1 rfl hM2) rfl rfl hl.1 rfl (lv_room (Nat.le_of_ble_eq_true rfl)) dL_law_1218 ⟨by show 40 + 10 * i + 8 + 0 + 0 ≤ 601024; omega, by show 70000 + 1200 * i + 1160 + 0 + 0 ≤ 7293034; omega⟩) ?_
  refine xe_top (y := (kAd (mS σ.2.1) nL (xs (7 * i + 1)) (xs (7 * i + 2)) (xs (7 * i + 3)) (xs (7 * i + 4)))) (show σ2.1 25 = (kAd (mS σ.2.1) nL (xs (7 * i + 1)) (xs (7 * i + 2)) (xs (7 * i + 3)) (xs (7 * i + 4))) from ht) ?_
  refine lv_iload hx hb dL_law_1221 (lv_at hl 1 rfl) ?_
  refine lv_icmp_eq (tgt := 1228) hx hb dL_law_1223 (by decide) (fun _ => ?_) (fun q => absurd rfl q)
  rcases hJ with ⟨hk, hP, hO⟩ | ⟨hk, hP, o2, hO⟩
  · have hC2 := hP.same (fun q g1 g2 => q8 q g1 (fun h => g2.2.1 h))
    have hO := x_kept hO (q8 _ (q_lt hO) (fun h => absurd h.2 (Nat.lt_irrefl _)))
    obtain ⟨hy, hp⟩ := heq hk
    refine lv_iload hx hb dL_law_1228 (lv_at hl 1 rfl) ?_
    refine lv_if_ne (tgt := 1245) hx hb dL_law_1230 (by decide) (fun q => absurd hk q) (fun _ => ?_)
    refine lv_aload_n hx hb dL_law_1233 rfl (lv_at hl 5 rfl) ?_
    refine lv_iconst (v := 0) hx hb dL_law_1234 (by decide) ?_
    refine x_lald hx hb hK hO 0 rfl (by omega) (by decide) dL_law_1235 ?_
    refine lv_iload hx hb dL_law_1236 (lv_at hl 0 rfl) ?_
    refine lv_i2l hx hb dL_law_1238 rfl ?_
    refine xe_lcmp hx hb dL_law_1239 (fun v9 hv9 => ?_)
    refine lv_if_eq (tgt := 1245) hx hb dL_law_1240 (by decide) (fun _ => ?_) (fun q => absurd (hv9.mpr (show ((nI (adV (mS σ.2.1) nC (ix (xs (7 * i + 1))) (cl (xs (7 * i + 1)) (xs (7 * i + 2))) (xs (7 * i + 3)))).toInt64) = (y).toInt64 from by subst hy; rfl)) q)
    refine lv_goto (tgt := 2489) hx hb dL_law_1245 (by decide) ?_
    refine lv_iinc (v := (nI (7 * (i + 1)))) (lv' := [(4, .int (nI (7 * (i + 1)))), (6, .int y), (5, .int (kAd (mS σ.2.1) nL (xs (7 * i + 1)) (xs (7 * i + 2)) (xs (7 * i + 3)) (xs (7 * i + 4)))), (0, .ref b), (1, .ref o), (2, .ref M), (3, .ref ou)]) hx hb dL_law_2489 hl (k := 6) rfl (ni_inc7 i) (by decide) rfl (fun ls hl => ?_)
    refine lv_goto (tgt := 23) hx hb dL_law_2492 (by decide) ?_
    exact W.widen (k := 40 + 10 * (i + 1)) (n := 70000 + 1200 * (i + 1)) (by omega) (by omega) (ih _ _ _ (li_end hou9 ⟨_, hO⟩ hM2 hp (mN_ad hn (cl (xs (7 * i + 1)) (xs (7 * i + 2))) (xs (7 * i + 3))) (by rw [ad_ms]; exact hC2) (by rw [ad_ms]; exact hi.ad (by omega) hk) (by have := adN_le σ.2.1 nV (cl (xs (7 * i + 1)) (xs (7 * i + 2))) (xs (7 * i + 3)); omega)) hS (lv_sub hl [3, 4, 5, 6, 0] rfl))
  · have hC2 := hP.same (fun q g1 g2 => q8 q g1 (fun h => g2.2.1 h))
    have hO := x_kept hO (q8 _ (q_lt hO) (fun h => absurd h.2 (Nat.lt_irrefl _)))
    have hp := hne hk
    refine lv_iload hx hb dL_law_1228 (lv_at hl 1 rfl) ?_
    refine lv_if_ne (tgt := 1245) hx hb dL_law_1230 (by decide) (fun _ => ?_) (fun q => absurd q hk)
    refine lv_goto (tgt := 2489) hx hb dL_law_1245 (by decide) ?_
    refine lv_iinc (v := (nI (7 * (i + 1)))) (lv' := [(4, .int (nI (7 * (i + 1)))), (6, .int y), (5, .int (kAd (mS σ.2.1) nL (xs (7 * i + 1)) (xs (7 * i + 2)) (xs (7 * i + 3)) (xs (7 * i + 4)))), (0, .ref b), (1, .ref o), (2, .ref M), (3, .ref ou)]) hx hb dL_law_2489 hl (k := 6) rfl (ni_inc7 i) (by decide) rfl (fun ls hl => ?_)
    refine lv_goto (tgt := 23) hx hb dL_law_2492 (by decide) ?_
    exact W.widen (k := 40 + 10 * (i + 1)) (n := 70000 + 1200 * (i + 1)) (by omega) (by omega) (ih _ _ _ (li_end hou9 ⟨_, hO⟩ hM2 hp hn hC2 hi (by omega)) hS (lv_sub hl [3, 4, 5, 6, 0] rfl))
set_option maxHeartbeats 4000000 in
set_option maxRecDepth 100000 in
theorem lw_c15 {p : Program} {l : Launch} {e : Env} {s : State} {m : MethodId} {below : List Frame} {meth : Method} {c : Code} {b L : Nat} {xs : Nat → Int32} {Q : State → Prop} (hx : p.tables.exec = Jvm.exec) (hb : c.code = cL_law) (hml : c.maxLocals = 8) (hown : s.vm.findClass RL = some m.cls) (hts : ∀ w ∈ wsL_law, w.before #[Value.ref b] s = true) {D : va_G} {cA : Nat → ClassId} (hK : xK D cA s) {z o M h1 ou : Nat} {ad : Nat → Nat} (hX : lK (fun q => s.heap.size ≤ q) z s) (hXs : va_X b L xs s s.heap) (hbl : b < s.heap.size) (hL : L ≤ 3584) (hst : l.stackTraces = false) (h01 : s.heap.size ≤ h1) (h1u : h1 ≤ ou) {i : Nat} (hi9 : 7 * i + 7 ≤ L) {H : Heap} {locs : List Loc} {ls : Array Slot} (hI : LI D cA s.heap.size h1 ou z o M ad i H) (hS : va_S (fun q => s.heap.size ≤ q) s.heap H locs) (hl : lv_has ls 8 [(0, .ref b), (1, .ref o), (2, .ref M), (3, .ref ou), (4, .int (nI (7 * i)))]) (ih : ∀ (H2 : Heap) (locs2 : List Loc) (ls2 : Array Slot), LI D cA s.heap.size h1 ou z o M ad (i + 1) H2 → va_S (fun q => s.heap.size ≤ q) s.heap H2 locs2 → lv_has ls2 8 [(0, .ref b), (1, .ref o), (2, .ref M), (3, .ref ou), (4, .int (nI (7 * (i + 1))))] → W p l e room_1 s m #[Value.ref b] below meth c H2 locs2 (40 + 10 * (i + 1)) (70000 + 1200 * (i + 1)) Q (F0 m 23 ls2 [])) : W p l e room_1 s m #[Value.ref b] below meth c H locs (40 + 10 * i) (70000 + 1200 * i) Q (F0 m 1248 ls []) := by
  obtain ⟨hou9, ⟨o1, hO⟩, σ, nC, nL, nV, hM, hn, hC, hi, hv⟩ := hI
  have hi5 : i ≤ 511 := by omega
  refine lv_aload_n hx hb dL_law_1248 rfl (lv_at hl 1 rfl) ?_
  refine lv_aload_n hx hb dL_law_1249 rfl (lv_at hl 0 rfl) ?_
  refine lv_iload hx hb dL_law_1250 (lv_at hl 4 rfl) ?_
  refine lv_iconst (v := 1) hx hb dL_law_1252 (by decide) ?_
  refine xe_iadd hx hb (nI_add (7 * i) 1) dL_law_1253 ?_
  refine va_sld hx hb hXs hbl (Nat.not_le.mpr hbl) hS (vp_in_nI (show 7 * i + 1 < L by omega) (by omega)) dL_law_1254 ?_
  rw [nI_clamp (show 7 * i + 1 < 2 ^ 31 by omega)]
  refine lv_aload_n hx hb dL_law_1255 rfl (lv_at hl 0 rfl) ?_
  refine lv_iload hx hb dL_law_1256 (lv_at hl 4 rfl) ?_
  refine lv_iconst (v := 2) hx hb dL_law_1258 (by decide) ?_
  refine xe_iadd hx hb (nI_add (7 * i) 2) dL_law_1259 ?_
  refine va_sld hx hb hXs hbl (Nat.not_le.mpr hbl) hS (vp_in_nI (show 7 * i + 2 < L by omega) (by omega)) dL_law_1260 ?_
  rw [nI_clamp (show 7 * i + 2 < 2 ^ 31 by omega)]
  refine lv_aload_n hx hb dL_law_1261 rfl (lv_at hl 0 rfl) ?_
  refine lv_iload hx hb dL_law_1262 (lv_at hl 4 rfl) ?_
  refine lv_iconst (v := 3) hx hb dL_law_1264 (by decide) ?_
  refine xe_iadd hx hb (nI_add (7 * i) 3) dL_law_1265 ?_
  refine va_sld hx hb hXs hbl (Nat.not_le.mpr hbl) hS (vp_in_nI (show 7 * i + 3 < L by omega) (by omega)) dL_law_1266 ?_
  rw [nI_clamp (show 7 * i + 3 < 2 ^ 31 by omega)]
  refine lv_aload_n hx hb dL_law_1267 rfl (lv_at hl 3 rfl) ?_
  have hou8 : ¬ aC s.heap.size h1 ou ou := fun h => h.2.2 rfl
  have hAn : ∀ q, H.size ≤ q → aC s.heap.size h1 ou q := fun q h => ⟨by have := hS.1; omega, by omega, by omega⟩
  have hBA : ∀ q, (aC s.heap.size h1 ou q ∨ q = ou) → s.heap.size ≤ q := fun q h => h.elim (fun h => h.1) (fun e => by omega)
  refine xl_lcall (vx_runSW (As := [.ref o, .int (xs (7 * i + 1)), .int (xs (7 * i + 2)), .int (xs (7 * i + 3)), .ref ou]) (rest := []) ⟨hx, hb, hml, hown, hts⟩ (c_L_abort l hst D cA (aC s.heap.size h1 ou) z o ou σ.2.1 nC nL nV hi H (xs (7 * i + 1)) (xs (7 * i + 2)) (xs (7 * i + 3)) hou8 hAn) (vx_cwSW 5 hts gL_law_L_abort rfl rfl rfl (by decide +kernel) ⟨(Nat.le_of_ble_eq_true rfl), (Nat.le_of_ble_eq_true rfl)⟩) (xPXS hK lK.blind (fun U hU hW => hX.at hS hBA hU hW) ⟨rfl, hC, _, hO⟩) rfl rfl hl.1 rfl (lv_room (Nat.le_of_ble_eq_true rfl)) dL_law_1268 ⟨by show 40 + 10 * i + 3 ≤ 601024; omega, by show 70000 + 1200 * i + 18 ≤ 7293034; omega⟩) hS (fun q _ h => hBA q h) (fun q h => hBA q h) (fun H locs hJ z9 q9 hS => ?_)
  have hM := hM.keptA (fun q g1 g2 => q9 q g1 (fun h => h.elim (fun h => h.2.1 g2) (fun e => by have := g2.2; omega)))
  have hou9 : ou < H.size := Nat.lt_of_lt_of_le hou9 z9
  refine lv_istore (lv' := [(5, .int (wrF (mS σ.2.1) nL (xs (7 * i + 1)) (xs (7 * i + 2)) true (xs (7 * i + 3)) true)), (0, .ref b), (1, .ref o), (2, .ref M), (3, .ref ou), (4, .int (nI (7 * i)))]) hx hb dL_law_1271 hl (by decide) rfl (fun ls hl => ?_)
  refine lv_aload_n hx hb dL_law_1273 rfl (lv_at hl 3 rfl) ?_
  refine lv_aload_n hx hb dL_law_1274 rfl (lv_at hl 1 rfl) ?_
  refine lv_iload hx hb dL_law_1275 (lv_at hl 5 rfl) ?_
  refine lv_iconst (v := 1) hx hb dL_law_1277 (by decide) ?_
  refine xe_iadd hx hb (nI_add (7 * i) 1) dL_law_1278 ?_
  refine va_sld hx hb hXs hbl (Nat.not_le.mpr hbl) hS (vp_in_nI (show 7 * i + 1 < L by omega) (by omega)) dL_law_1279 ?_
  rw [nI_clamp (show 7 * i + 1 < 2 ^ 31 by omega)]
  refine lv_aload_n hx hb dL_law_1280 rfl (lv_at hl 1 rfl) ?_
  refine lv_iload hx hb dL_law_1281 (lv_at hl 5 rfl) ?_
  refine lv_iconst (v := 2) hx hb dL_law_1283 (by decide) ?_
  refine xe_iadd hx hb (nI_add (7 * i) 2) dL_law_1284 ?_
  refine va_sld hx hb hXs hbl (Nat.not_le.mpr hbl) hS (vp_in_nI (show 7 * i + 2 < L by omega) (by omega)) dL_law_1285 ?_
  rw [nI_clamp (show 7 * i + 2 < 2 ^ 31 by omega)]
  refine lv_aload_n hx hb dL_law_1286 rfl (lv_at hl 1 rfl) ?_
  refine lv_iload hx hb dL_law_1287 (lv_at hl 5 rfl) ?_
  refine lv_iconst (v := 3) hx hb dL_law_1289 (by decide) ?_
  refine xe_iadd hx hb (nI_add (7 * i) 3) dL_law_1290 ?_
  refine va_sld hx hb hXs hbl (Nat.not_le.mpr hbl) hS (vp_in_nI (show 7 * i + 3 < L by omega) (by omega)) dL_law_1291 ?_
  rw [nI_clamp (show 7 * i + 3 < 2 ^ 31 by omega)]
  have hMA : ∀ q, aM h1 ou q → s.heap.size ≤ q := fun q h => Nat.le_trans h01 h.1
  refine xl_mint (va_runV (As := [.int (xs (7 * i + 1)), .int (xs (7 * i + 2)), .int (xs (7 * i + 3))]) (rest := []) ⟨hx, hb, hml, hown, hts⟩ (c_X7_abort l D cA (aM h1 ou) M ad σ (xs (7 * i + 1)) (xs (7 * i + 2)) (xs (7 * i + 3)) nL hn.2.1 hi.2.1) (cwV 3 hts gL_law_X7_abort rfl rfl rfl (by decide +kernel) ⟨(Nat.le_of_ble_eq_true rfl), (Nat.le_of_ble_eq_true rfl)⟩) (xPV hK hM.1 rfl hM) rfl rfl hl.1 rfl (lv_room (Nat.le_of_ble_eq_true rfl)) dL_law_1292 ⟨by show 40 + 10 * i + 3 + 0 ≤ 601024; omega, by show 70000 + 1200 * i + 18 + 0 ≤ 7293034; omega⟩) hS (fun q _ h => hMA q h) (fun q h => hMA q h) (fun y σ2 H locs hM2 ht hne heq z8 q8 hS => ?_)
  have hou9 : ou < H.size := Nat.lt_of_lt_of_le hou9 z8
  refine lv_istore (lv' := [(6, .int y), (5, .int (wrF (mS σ.2.1) nL (xs (7 * i + 1)) (xs (7 * i + 2)) true (xs (7 * i + 3)) true)), (0, .ref b), (1, .ref o), (2, .ref M), (3, .ref ou), (4, .int (nI (7 * i)))]) hx hb dL_law_1295 hl (by decide) rfl (fun ls hl => ?_)
  refine lv_aload_n hx hb dL_law_1297 rfl (lv_at hl 4 rfl) ?_
  refine xr_call (va_runV (As := []) (rest := []) ⟨hx, hb, hml, hown, hts⟩ (c_X7_thrown l D cA (aM h1 ou) M ad σ2) (cwV 0 hts gL_law_X7_thrown rfl rfl rfl (by decide +kernel) ⟨(Nat.le_of_ble_eq_true rfl), (Nat.le_of_ble_eq_true rfl)⟩) (xPV hK hM2.1 rfl hM2) rfl rfl hl.1 rfl (lv_room (Nat.le_of_ble_eq_true rfl)) dL_law_1298 ⟨by show 40 + 10 * i + 3 + 0 + 0 ≤ 601024; omega, by show 70000 + 1200 * i + 18 + 0 + 0 ≤ 7293034; omega⟩) ?_
  refine xe_top (y := (wrF (mS σ.2.1) nL (xs (7 * i + 1)) (xs (7 * i + 2)) true (xs (7 * i + 3)) true)) (show σ2.1 25 = (wrF (mS σ.2.1) nL (xs (7 * i + 1)) (xs (7 * i + 2)) true (xs (7 * i + 3)) true) from ht) ?_
  refine lv_iload hx hb dL_law_1301 (lv_at hl 1 rfl) ?_
  refine lv_icmp_eq (tgt := 1308) hx hb dL_law_1303 (by decide) (fun _ => ?_) (fun q => absurd rfl q)
  rcases hJ with ⟨hk, hP, hO⟩ | ⟨hk, hP, o2, hO⟩
  · have hC2 := hP.same (fun q g1 g2 => q8 q g1 (fun h => g2.2.1 h))
    have hO := x_kept hO (q8 _ (q_lt hO) (fun h => absurd h.2 (Nat.lt_irrefl _)))
    obtain ⟨hy, hp⟩ := heq hk
    refine lv_iload hx hb dL_law_1308 (lv_at hl 1 rfl) ?_
    refine lv_if_ne (tgt := 1325) hx hb dL_law_1310 (by decide) (fun q => absurd hk q) (fun _ => ?_)
    refine lv_aload_n hx hb dL_law_1313 rfl (lv_at hl 5 rfl) ?_
    refine lv_iconst (v := 0) hx hb dL_law_1314 (by decide) ?_
    refine x_lald hx hb hK hO 0 rfl (by omega) (by decide) dL_law_1315 ?_
    refine lv_iload hx hb dL_law_1316 (lv_at hl 0 rfl) ?_
    refine lv_i2l hx hb dL_law_1318 rfl ?_
    refine xe_lcmp hx hb dL_law_1319 (fun v9 hv9 => ?_)
    refine lv_if_eq (tgt := 1325) hx hb dL_law_1320 (by decide) (fun _ => ?_) (fun q => absurd (hv9.mpr (show ((σ.2.1 10 (cl (xs (7 * i + 1)) (xs (7 * i + 2)))).toInt64) = (y).toInt64 from by subst hy; rfl)) q)
    refine lv_goto (tgt := 2489) hx hb dL_law_1325 (by decide) ?_
    refine lv_iinc (v := (nI (7 * (i + 1)))) (lv' := [(4, .int (nI (7 * (i + 1)))), (6, .int y), (5, .int (wrF (mS σ.2.1) nL (xs (7 * i + 1)) (xs (7 * i + 2)) true (xs (7 * i + 3)) true)), (0, .ref b), (1, .ref o), (2, .ref M), (3, .ref ou)]) hx hb dL_law_2489 hl (k := 6) rfl (ni_inc7 i) (by decide) rfl (fun ls hl => ?_)
    refine lv_goto (tgt := 23) hx hb dL_law_2492 (by decide) ?_
    exact W.widen (k := 40 + 10 * (i + 1)) (n := 70000 + 1200 * (i + 1)) (by omega) (by omega) (ih _ _ _ (li_end hou9 ⟨_, hO⟩ hM2 hp hn hC2 (hi.ab (cl (xs (7 * i + 1)) (xs (7 * i + 2))) (-1) (cl_lt hi.2.1 (wrF_0 hk).1 (wrF_0 hk).2.1)) (by omega)) hS (lv_sub hl [3, 4, 5, 6, 0] rfl))
  · have hC2 := hP.same (fun q g1 g2 => q8 q g1 (fun h => g2.2.1 h))
    have hO := x_kept hO (q8 _ (q_lt hO) (fun h => absurd h.2 (Nat.lt_irrefl _)))
    have hp := hne hk
    refine lv_iload hx hb dL_law_1308 (lv_at hl 1 rfl) ?_
    refine lv_if_ne (tgt := 1325) hx hb dL_law_1310 (by decide) (fun _ => ?_) (fun q => absurd q hk)
    refine lv_goto (tgt := 2489) hx hb dL_law_1325 (by decide) ?_
    refine lv_iinc (v := (nI (7 * (i + 1)))) (lv' := [(4, .int (nI (7 * (i + 1)))), (6, .int y), (5, .int (wrF (mS σ.2.1) nL (xs (7 * i + 1)) (xs (7 * i + 2)) true (xs (7 * i + 3)) true)), (0, .ref b), (1, .ref o), (2, .ref M), (3, .ref ou)]) hx hb dL_law_2489 hl (k := 6) rfl (ni_inc7 i) (by decide) rfl (fun ls hl => ?_)
    refine lv_goto (tgt := 23) hx hb dL_law_2492 (by decide) ?_
    exact W.widen (k := 40 + 10 * (i + 1)) (n := 70000 + 1200 * (i + 1)) (by omega) (by omega) (ih _ _ _ (li_end hou9 ⟨_, hO⟩ hM2 hp hn hC2 hi (by omega)) hS (lv_sub hl [3, 4, 5, 6, 0] rfl))
set_option maxHeartbeats 4000000 in
set_option maxRecDepth 100000 in
theorem lw_c16 {p : Program} {l : Launch} {e : Env} {s : State} {m : MethodId} {below : List Frame} {meth : Method} {c : Code} {b L : Nat} {xs : Nat → Int32} {Q : State → Prop} (hx : p.tables.exec = Jvm.exec) (hb : c.code = cL_law) (hml : c.maxLocals = 8) (hown : s.vm.findClass RL = some m.cls) (hts : ∀ w ∈ wsL_law, w.before #[Value.ref b] s = true) {D : va_G} {cA : Nat → ClassId} (hK : xK D cA s) {z o M h1 ou : Nat} {ad : Nat → Nat} (hX : lK (fun q => s.heap.size ≤ q) z s) (hXs : va_X b L xs s s.heap) (hbl : b < s.heap.size) (hL : L ≤ 3584) (hst : l.stackTraces = false) (h01 : s.heap.size ≤ h1) (h1u : h1 ≤ ou) {i : Nat} (hi9 : 7 * i + 7 ≤ L) {H : Heap} {locs : List Loc} {ls : Array Slot} (hI : LI D cA s.heap.size h1 ou z o M ad i H) (hS : va_S (fun q => s.heap.size ≤ q) s.heap H locs) (hl : lv_has ls 8 [(0, .ref b), (1, .ref o), (2, .ref M), (3, .ref ou), (4, .int (nI (7 * i)))]) (ih : ∀ (H2 : Heap) (locs2 : List Loc) (ls2 : Array Slot), LI D cA s.heap.size h1 ou z o M ad (i + 1) H2 → va_S (fun q => s.heap.size ≤ q) s.heap H2 locs2 → lv_has ls2 8 [(0, .ref b), (1, .ref o), (2, .ref M), (3, .ref ou), (4, .int (nI (7 * (i + 1))))] → W p l e room_1 s m #[Value.ref b] below meth c H2 locs2 (40 + 10 * (i + 1)) (70000 + 1200 * (i + 1)) Q (F0 m 23 ls2 [])) : W p l e room_1 s m #[Value.ref b] below meth c H locs (40 + 10 * i) (70000 + 1200 * i) Q (F0 m 1328 ls []) := by
  obtain ⟨hou9, ⟨o1, hO⟩, σ, nC, nL, nV, hM, hn, hC, hi, hv⟩ := hI
  have hi5 : i ≤ 511 := by omega
  refine lv_aload_n hx hb dL_law_1328 rfl (lv_at hl 1 rfl) ?_
  refine lv_aload_n hx hb dL_law_1329 rfl (lv_at hl 0 rfl) ?_
  refine lv_iload hx hb dL_law_1330 (lv_at hl 4 rfl) ?_
  refine lv_iconst (v := 1) hx hb dL_law_1332 (by decide) ?_
  refine xe_iadd hx hb (nI_add (7 * i) 1) dL_law_1333 ?_
  refine va_sld hx hb hXs hbl (Nat.not_le.mpr hbl) hS (vp_in_nI (show 7 * i + 1 < L by omega) (by omega)) dL_law_1334 ?_
  rw [nI_clamp (show 7 * i + 1 < 2 ^ 31 by omega)]
  refine lv_aload_n hx hb dL_law_1335 rfl (lv_at hl 0 rfl) ?_
  refine lv_iload hx hb dL_law_1336 (lv_at hl 4 rfl) ?_
  refine lv_iconst (v := 2) hx hb dL_law_1338 (by decide) ?_
  refine xe_iadd hx hb (nI_add (7 * i) 2) dL_law_1339 ?_
  refine va_sld hx hb hXs hbl (Nat.not_le.mpr hbl) hS (vp_in_nI (show 7 * i + 2 < L by omega) (by omega)) dL_law_1340 ?_
  rw [nI_clamp (show 7 * i + 2 < 2 ^ 31 by omega)]
  refine lv_aload_n hx hb dL_law_1341 rfl (lv_at hl 3 rfl) ?_
  have hou8 : ¬ aC s.heap.size h1 ou ou := fun h => h.2.2 rfl
  have hAn : ∀ q, H.size ≤ q → aC s.heap.size h1 ou q := fun q h => ⟨by have := hS.1; omega, by omega, by omega⟩
  have hBA : ∀ q, (aC s.heap.size h1 ou q ∨ q = ou) → s.heap.size ≤ q := fun q h => h.elim (fun h => h.1) (fun e => by omega)
  refine xl_lcall (vx_runSW (As := [.ref o, .int (xs (7 * i + 1)), .int (xs (7 * i + 2)), .ref ou]) (rest := []) ⟨hx, hb, hml, hown, hts⟩ (c_L_shareOf l hst D cA (aC s.heap.size h1 ou) z o ou σ.2.1 nC nL nV hi H (xs (7 * i + 1)) (xs (7 * i + 2)) hou8 hAn) (vx_cwSW 4 hts gL_law_L_shareOf rfl rfl rfl (by decide +kernel) ⟨(Nat.le_of_ble_eq_true rfl), (Nat.le_of_ble_eq_true rfl)⟩) (xPXS hK lK.blind (fun U hU hW => hX.at hS hBA hU hW) ⟨rfl, hC, _, hO⟩) rfl rfl hl.1 rfl (lv_room (Nat.le_of_ble_eq_true rfl)) dL_law_1342 ⟨by show 40 + 10 * i + 3 ≤ 601024; omega, by show 70000 + 1200 * i + 18 ≤ 7293034; omega⟩) hS (fun q _ h => hBA q h) (fun q h => hBA q h) (fun H locs hJ z9 q9 hS => ?_)
  have hM := hM.keptA (fun q g1 g2 => q9 q g1 (fun h => h.elim (fun h => h.2.1 g2) (fun e => by have := g2.2; omega)))
  have hou9 : ou < H.size := Nat.lt_of_lt_of_le hou9 z9
  refine lv_istore (lv' := [(5, .int (kCe nL (xs (7 * i + 1)) (xs (7 * i + 2)))), (0, .ref b), (1, .ref o), (2, .ref M), (3, .ref ou), (4, .int (nI (7 * i)))]) hx hb dL_law_1345 hl (by decide) rfl (fun ls hl => ?_)
  refine lv_aload_n hx hb dL_law_1347 rfl (lv_at hl 3 rfl) ?_
  refine lv_aload_n hx hb dL_law_1348 rfl (lv_at hl 1 rfl) ?_
  refine lv_iload hx hb dL_law_1349 (lv_at hl 5 rfl) ?_
  refine lv_iconst (v := 1) hx hb dL_law_1351 (by decide) ?_
  refine xe_iadd hx hb (nI_add (7 * i) 1) dL_law_1352 ?_
  refine va_sld hx hb hXs hbl (Nat.not_le.mpr hbl) hS (vp_in_nI (show 7 * i + 1 < L by omega) (by omega)) dL_law_1353 ?_
  rw [nI_clamp (show 7 * i + 1 < 2 ^ 31 by omega)]
  refine lv_aload_n hx hb dL_law_1354 rfl (lv_at hl 1 rfl) ?_
  refine lv_iload hx hb dL_law_1355 (lv_at hl 5 rfl) ?_
  refine lv_iconst (v := 2) hx hb dL_law_1357 (by decide) ?_
  refine xe_iadd hx hb (nI_add (7 * i) 2) dL_law_1358 ?_
  refine va_sld hx hb hXs hbl (Nat.not_le.mpr hbl) hS (vp_in_nI (show 7 * i + 2 < L by omega) (by omega)) dL_law_1359 ?_
  rw [nI_clamp (show 7 * i + 2 < 2 ^ 31 by omega)]
  have hMA : ∀ q, aM h1 ou q → s.heap.size ≤ q := fun q h => Nat.le_trans h01 h.1
  refine xl_mint (va_runV (As := [.int (xs (7 * i + 1)), .int (xs (7 * i + 2))]) (rest := []) ⟨hx, hb, hml, hown, hts⟩ (c_X7_shareOf l D cA (aM h1 ou) M ad σ (xs (7 * i + 1)) (xs (7 * i + 2)) nL hn.2.1 hi.2.1) (cwV 2 hts gL_law_X7_shareOf rfl rfl rfl (by decide +kernel) ⟨(Nat.le_of_ble_eq_true rfl), (Nat.le_of_ble_eq_true rfl)⟩) (xPV hK hM.1 rfl hM) rfl rfl hl.1 rfl (lv_room (Nat.le_of_ble_eq_true rfl)) dL_law_1360 ⟨by show 40 + 10 * i + 3 + 0 ≤ 601024; omega, by show 70000 + 1200 * i + 18 + 0 ≤ 7293034; omega⟩) hS (fun q _ h => hMA q h) (fun q h => hMA q h) (fun y σ2 H locs hM2 ht hne heq z8 q8 hS => ?_)
  have hou9 : ou < H.size := Nat.lt_of_lt_of_le hou9 z8
  refine lv_istore (lv' := [(6, .int y), (5, .int (kCe nL (xs (7 * i + 1)) (xs (7 * i + 2)))), (0, .ref b), (1, .ref o), (2, .ref M), (3, .ref ou), (4, .int (nI (7 * i)))]) hx hb dL_law_1363 hl (by decide) rfl (fun ls hl => ?_)
  refine lv_aload_n hx hb dL_law_1365 rfl (lv_at hl 4 rfl) ?_
  refine xr_call (va_runV (As := []) (rest := []) ⟨hx, hb, hml, hown, hts⟩ (c_X7_thrown l D cA (aM h1 ou) M ad σ2) (cwV 0 hts gL_law_X7_thrown rfl rfl rfl (by decide +kernel) ⟨(Nat.le_of_ble_eq_true rfl), (Nat.le_of_ble_eq_true rfl)⟩) (xPV hK hM2.1 rfl hM2) rfl rfl hl.1 rfl (lv_room (Nat.le_of_ble_eq_true rfl)) dL_law_1366 ⟨by show 40 + 10 * i + 3 + 0 + 0 ≤ 601024; omega, by show 70000 + 1200 * i + 18 + 0 + 0 ≤ 7293034; omega⟩) ?_
  refine xe_top (y := (kCe nL (xs (7 * i + 1)) (xs (7 * i + 2)))) (show σ2.1 25 = (kCe nL (xs (7 * i + 1)) (xs (7 * i + 2))) from ht) ?_
  refine lv_iload hx hb dL_law_1369 (lv_at hl 1 rfl) ?_
  refine lv_icmp_eq (tgt := 1376) hx hb dL_law_1371 (by decide) (fun _ => ?_) (fun q => absurd rfl q)
  rcases hJ with ⟨hk, hP, hO⟩ | ⟨hk, hP, o2, hO⟩
  · have hC2 := hP.same (fun q g1 g2 => q8 q g1 (fun h => g2.2.1 h))
    have hO := x_kept hO (q8 _ (q_lt hO) (fun h => absurd h.2 (Nat.lt_irrefl _)))
    obtain ⟨hy, hp⟩ := heq hk
    refine lv_iload hx hb dL_law_1376 (lv_at hl 1 rfl) ?_
    refine lv_if_ne (tgt := 1393) hx hb dL_law_1378 (by decide) (fun q => absurd hk q) (fun _ => ?_)
    refine lv_aload_n hx hb dL_law_1381 rfl (lv_at hl 5 rfl) ?_
    refine lv_iconst (v := 0) hx hb dL_law_1382 (by decide) ?_
    refine x_lald hx hb hK hO 0 rfl (by omega) (by decide) dL_law_1383 ?_
    refine lv_iload hx hb dL_law_1384 (lv_at hl 0 rfl) ?_
    refine lv_i2l hx hb dL_law_1386 rfl ?_
    refine xe_lcmp hx hb dL_law_1387 (fun v9 hv9 => ?_)
    refine lv_if_eq (tgt := 1393) hx hb dL_law_1388 (by decide) (fun _ => ?_) (fun q => absurd (hv9.mpr (show ((σ.2.1 10 (cl (xs (7 * i + 1)) (xs (7 * i + 2)))).toInt64) = (y).toInt64 from by subst hy; rfl)) q)
    refine lv_goto (tgt := 2489) hx hb dL_law_1393 (by decide) ?_
    refine lv_iinc (v := (nI (7 * (i + 1)))) (lv' := [(4, .int (nI (7 * (i + 1)))), (6, .int y), (5, .int (kCe nL (xs (7 * i + 1)) (xs (7 * i + 2)))), (0, .ref b), (1, .ref o), (2, .ref M), (3, .ref ou)]) hx hb dL_law_2489 hl (k := 6) rfl (ni_inc7 i) (by decide) rfl (fun ls hl => ?_)
    refine lv_goto (tgt := 23) hx hb dL_law_2492 (by decide) ?_
    exact W.widen (k := 40 + 10 * (i + 1)) (n := 70000 + 1200 * (i + 1)) (by omega) (by omega) (ih _ _ _ (li_end hou9 ⟨_, hO⟩ hM2 hp hn hC2 hi (by omega)) hS (lv_sub hl [3, 4, 5, 6, 0] rfl))
  · have hC2 := hP.same (fun q g1 g2 => q8 q g1 (fun h => g2.2.1 h))
    have hO := x_kept hO (q8 _ (q_lt hO) (fun h => absurd h.2 (Nat.lt_irrefl _)))
    have hp := hne hk
    refine lv_iload hx hb dL_law_1376 (lv_at hl 1 rfl) ?_
    refine lv_if_ne (tgt := 1393) hx hb dL_law_1378 (by decide) (fun _ => ?_) (fun q => absurd q hk)
    refine lv_goto (tgt := 2489) hx hb dL_law_1393 (by decide) ?_
    refine lv_iinc (v := (nI (7 * (i + 1)))) (lv' := [(4, .int (nI (7 * (i + 1)))), (6, .int y), (5, .int (kCe nL (xs (7 * i + 1)) (xs (7 * i + 2)))), (0, .ref b), (1, .ref o), (2, .ref M), (3, .ref ou)]) hx hb dL_law_2489 hl (k := 6) rfl (ni_inc7 i) (by decide) rfl (fun ls hl => ?_)
    refine lv_goto (tgt := 23) hx hb dL_law_2492 (by decide) ?_
    exact W.widen (k := 40 + 10 * (i + 1)) (n := 70000 + 1200 * (i + 1)) (by omega) (by omega) (ih _ _ _ (li_end hou9 ⟨_, hO⟩ hM2 hp hn hC2 hi (by omega)) hS (lv_sub hl [3, 4, 5, 6, 0] rfl))
set_option maxHeartbeats 4000000 in
set_option maxRecDepth 100000 in
theorem lw_c17 {p : Program} {l : Launch} {e : Env} {s : State} {m : MethodId} {below : List Frame} {meth : Method} {c : Code} {b L : Nat} {xs : Nat → Int32} {Q : State → Prop} (hx : p.tables.exec = Jvm.exec) (hb : c.code = cL_law) (hml : c.maxLocals = 8) (hown : s.vm.findClass RL = some m.cls) (hts : ∀ w ∈ wsL_law, w.before #[Value.ref b] s = true) {D : va_G} {cA : Nat → ClassId} (hK : xK D cA s) {z o M h1 ou : Nat} {ad : Nat → Nat} (hX : lK (fun q => s.heap.size ≤ q) z s) (hXs : va_X b L xs s s.heap) (hbl : b < s.heap.size) (hL : L ≤ 3584) (hst : l.stackTraces = false) (h01 : s.heap.size ≤ h1) (h1u : h1 ≤ ou) {i : Nat} (hi9 : 7 * i + 7 ≤ L) {H : Heap} {locs : List Loc} {ls : Array Slot} (hI : LI D cA s.heap.size h1 ou z o M ad i H) (hS : va_S (fun q => s.heap.size ≤ q) s.heap H locs) (hl : lv_has ls 8 [(0, .ref b), (1, .ref o), (2, .ref M), (3, .ref ou), (4, .int (nI (7 * i)))]) (ih : ∀ (H2 : Heap) (locs2 : List Loc) (ls2 : Array Slot), LI D cA s.heap.size h1 ou z o M ad (i + 1) H2 → va_S (fun q => s.heap.size ≤ q) s.heap H2 locs2 → lv_has ls2 8 [(0, .ref b), (1, .ref o), (2, .ref M), (3, .ref ou), (4, .int (nI (7 * (i + 1))))] → W p l e room_1 s m #[Value.ref b] below meth c H2 locs2 (40 + 10 * (i + 1)) (70000 + 1200 * (i + 1)) Q (F0 m 23 ls2 [])) : W p l e room_1 s m #[Value.ref b] below meth c H locs (40 + 10 * i) (70000 + 1200 * i) Q (F0 m 1396 ls []) := by
  obtain ⟨hou9, ⟨o1, hO⟩, σ, nC, nL, nV, hM, hn, hC, hi, hv⟩ := hI
  have hi5 : i ≤ 511 := by omega
  refine lv_aload_n hx hb dL_law_1396 rfl (lv_at hl 1 rfl) ?_
  refine lv_aload_n hx hb dL_law_1397 rfl (lv_at hl 0 rfl) ?_
  refine lv_iload hx hb dL_law_1398 (lv_at hl 4 rfl) ?_
  refine lv_iconst (v := 1) hx hb dL_law_1400 (by decide) ?_
  refine xe_iadd hx hb (nI_add (7 * i) 1) dL_law_1401 ?_
  refine va_sld hx hb hXs hbl (Nat.not_le.mpr hbl) hS (vp_in_nI (show 7 * i + 1 < L by omega) (by omega)) dL_law_1402 ?_
  rw [nI_clamp (show 7 * i + 1 < 2 ^ 31 by omega)]
  refine lv_aload_n hx hb dL_law_1403 rfl (lv_at hl 0 rfl) ?_
  refine lv_iload hx hb dL_law_1404 (lv_at hl 4 rfl) ?_
  refine lv_iconst (v := 2) hx hb dL_law_1406 (by decide) ?_
  refine xe_iadd hx hb (nI_add (7 * i) 2) dL_law_1407 ?_
  refine va_sld hx hb hXs hbl (Nat.not_le.mpr hbl) hS (vp_in_nI (show 7 * i + 2 < L by omega) (by omega)) dL_law_1408 ?_
  rw [nI_clamp (show 7 * i + 2 < 2 ^ 31 by omega)]
  refine lv_aload_n hx hb dL_law_1409 rfl (lv_at hl 0 rfl) ?_
  refine lv_iload hx hb dL_law_1410 (lv_at hl 4 rfl) ?_
  refine lv_iconst (v := 3) hx hb dL_law_1412 (by decide) ?_
  refine xe_iadd hx hb (nI_add (7 * i) 3) dL_law_1413 ?_
  refine va_sld hx hb hXs hbl (Nat.not_le.mpr hbl) hS (vp_in_nI (show 7 * i + 3 < L by omega) (by omega)) dL_law_1414 ?_
  rw [nI_clamp (show 7 * i + 3 < 2 ^ 31 by omega)]
  refine lv_aload_n hx hb dL_law_1415 rfl (lv_at hl 3 rfl) ?_
  have hou8 : ¬ aC s.heap.size h1 ou ou := fun h => h.2.2 rfl
  have hAn : ∀ q, H.size ≤ q → aC s.heap.size h1 ou q := fun q h => ⟨by have := hS.1; omega, by omega, by omega⟩
  have hBA : ∀ q, (aC s.heap.size h1 ou q ∨ q = ou) → s.heap.size ≤ q := fun q h => h.elim (fun h => h.1) (fun e => by omega)
  refine xl_lcall (vx_runSW (As := [.ref o, .int (xs (7 * i + 1)), .int (xs (7 * i + 2)), .int (xs (7 * i + 3)), .ref ou]) (rest := []) ⟨hx, hb, hml, hown, hts⟩ (c_L_lock l hst D cA (aC s.heap.size h1 ou) z o ou σ.2.1 nC nL nV hi H (xs (7 * i + 1)) (xs (7 * i + 2)) (xs (7 * i + 3)) hou8 hAn) (vx_cwSW 5 hts gL_law_L_lock rfl rfl rfl (by decide +kernel) ⟨(Nat.le_of_ble_eq_true rfl), (Nat.le_of_ble_eq_true rfl)⟩) (xPXS hK lK.blind (fun U hU hW => hX.at hS hBA hU hW) ⟨rfl, hC, _, hO⟩) rfl rfl hl.1 rfl (lv_room (Nat.le_of_ble_eq_true rfl)) dL_law_1416 ⟨by show 40 + 10 * i + 3 ≤ 601024; omega, by show 70000 + 1200 * i + 18 ≤ 7293034; omega⟩) hS (fun q _ h => hBA q h) (fun q h => hBA q h) (fun H locs hJ z9 q9 hS => ?_)
  have hM := hM.keptA (fun q g1 g2 => q9 q g1 (fun h => h.elim (fun h => h.2.1 g2) (fun e => by have := g2.2; omega)))
  have hou9 : ou < H.size := Nat.lt_of_lt_of_le hou9 z9
  refine lv_istore (lv' := [(5, .int (kLo (mS σ.2.1) nL (xs (7 * i + 1)) (xs (7 * i + 2)) (xs (7 * i + 3)))), (0, .ref b), (1, .ref o), (2, .ref M), (3, .ref ou), (4, .int (nI (7 * i)))]) hx hb dL_law_1419 hl (by decide) rfl (fun ls hl => ?_)
  refine lv_aload_n hx hb dL_law_1421 rfl (lv_at hl 3 rfl) ?_
  refine lv_aload_n hx hb dL_law_1422 rfl (lv_at hl 1 rfl) ?_
  refine lv_iload hx hb dL_law_1423 (lv_at hl 5 rfl) ?_
  refine lv_iconst (v := 1) hx hb dL_law_1425 (by decide) ?_
  refine xe_iadd hx hb (nI_add (7 * i) 1) dL_law_1426 ?_
  refine va_sld hx hb hXs hbl (Nat.not_le.mpr hbl) hS (vp_in_nI (show 7 * i + 1 < L by omega) (by omega)) dL_law_1427 ?_
  rw [nI_clamp (show 7 * i + 1 < 2 ^ 31 by omega)]
  refine lv_aload_n hx hb dL_law_1428 rfl (lv_at hl 1 rfl) ?_
  refine lv_iload hx hb dL_law_1429 (lv_at hl 5 rfl) ?_
  refine lv_iconst (v := 2) hx hb dL_law_1431 (by decide) ?_
  refine xe_iadd hx hb (nI_add (7 * i) 2) dL_law_1432 ?_
  refine va_sld hx hb hXs hbl (Nat.not_le.mpr hbl) hS (vp_in_nI (show 7 * i + 2 < L by omega) (by omega)) dL_law_1433 ?_
  rw [nI_clamp (show 7 * i + 2 < 2 ^ 31 by omega)]
  refine lv_aload_n hx hb dL_law_1434 rfl (lv_at hl 1 rfl) ?_
  refine lv_iload hx hb dL_law_1435 (lv_at hl 5 rfl) ?_
  refine lv_iconst (v := 3) hx hb dL_law_1437 (by decide) ?_
  refine xe_iadd hx hb (nI_add (7 * i) 3) dL_law_1438 ?_
  refine va_sld hx hb hXs hbl (Nat.not_le.mpr hbl) hS (vp_in_nI (show 7 * i + 3 < L by omega) (by omega)) dL_law_1439 ?_
  rw [nI_clamp (show 7 * i + 3 < 2 ^ 31 by omega)]
  have hMA : ∀ q, aM h1 ou q → s.heap.size ≤ q := fun q h => Nat.le_trans h01 h.1
  refine xl_mint (va_runV (As := [.int (xs (7 * i + 1)), .int (xs (7 * i + 2)), .int (xs (7 * i + 3))]) (rest := []) ⟨hx, hb, hml, hown, hts⟩ (c_X7_lock l D cA (aM h1 ou) M ad σ (xs (7 * i + 1)) (xs (7 * i + 2)) (xs (7 * i + 3)) nL hn.2.1 hi.2.1) (cwV 3 hts gL_law_X7_lock rfl rfl rfl (by decide +kernel) ⟨(Nat.le_of_ble_eq_true rfl), (Nat.le_of_ble_eq_true rfl)⟩) (xPV hK hM.1 rfl hM) rfl rfl hl.1 rfl (lv_room (Nat.le_of_ble_eq_true rfl)) dL_law_1440 ⟨by show 40 + 10 * i + 3 + 0 ≤ 601024; omega, by show 70000 + 1200 * i + 18 + 0 ≤ 7293034; omega⟩) hS (fun q _ h => hMA q h) (fun q h => hMA q h) (fun y σ2 H locs hM2 ht hne heq z8 q8 hS => ?_)
  have hou9 : ou < H.size := Nat.lt_of_lt_of_le hou9 z8
  refine lv_istore (lv' := [(6, .int y), (5, .int (kLo (mS σ.2.1) nL (xs (7 * i + 1)) (xs (7 * i + 2)) (xs (7 * i + 3)))), (0, .ref b), (1, .ref o), (2, .ref M), (3, .ref ou), (4, .int (nI (7 * i)))]) hx hb dL_law_1443 hl (by decide) rfl (fun ls hl => ?_)
  refine lv_aload_n hx hb dL_law_1445 rfl (lv_at hl 4 rfl) ?_
  refine xr_call (va_runV (As := []) (rest := []) ⟨hx, hb, hml, hown, hts⟩ (c_X7_thrown l D cA (aM h1 ou) M ad σ2) (cwV 0 hts gL_law_X7_thrown rfl rfl rfl (by decide +kernel) ⟨(Nat.le_of_ble_eq_true rfl), (Nat.le_of_ble_eq_true rfl)⟩) (xPV hK hM2.1 rfl hM2) rfl rfl hl.1 rfl (lv_room (Nat.le_of_ble_eq_true rfl)) dL_law_1446 ⟨by show 40 + 10 * i + 3 + 0 + 0 ≤ 601024; omega, by show 70000 + 1200 * i + 18 + 0 + 0 ≤ 7293034; omega⟩) ?_
  refine xe_top (y := (kLo (mS σ.2.1) nL (xs (7 * i + 1)) (xs (7 * i + 2)) (xs (7 * i + 3)))) (show σ2.1 25 = (kLo (mS σ.2.1) nL (xs (7 * i + 1)) (xs (7 * i + 2)) (xs (7 * i + 3))) from ht) ?_
  refine lv_iload hx hb dL_law_1449 (lv_at hl 1 rfl) ?_
  refine lv_icmp_eq (tgt := 1456) hx hb dL_law_1451 (by decide) (fun _ => ?_) (fun q => absurd rfl q)
  rcases hJ with ⟨hk, hP, hO⟩ | ⟨hk, hP, o2, hO⟩
  · have hC2 := hP.same (fun q g1 g2 => q8 q g1 (fun h => g2.2.1 h))
    have hO := x_kept hO (q8 _ (q_lt hO) (fun h => absurd h.2 (Nat.lt_irrefl _)))
    obtain ⟨hy, hp⟩ := heq hk
    refine lv_iload hx hb dL_law_1456 (lv_at hl 1 rfl) ?_
    refine lv_if_ne (tgt := 1473) hx hb dL_law_1458 (by decide) (fun q => absurd hk q) (fun _ => ?_)
    refine lv_aload_n hx hb dL_law_1461 rfl (lv_at hl 5 rfl) ?_
    refine lv_iconst (v := 0) hx hb dL_law_1462 (by decide) ?_
    refine x_lald hx hb hK hO 0 rfl (by omega) (by decide) dL_law_1463 ?_
    refine lv_iload hx hb dL_law_1464 (lv_at hl 0 rfl) ?_
    refine lv_i2l hx hb dL_law_1466 rfl ?_
    refine xe_lcmp hx hb dL_law_1467 (fun v9 hv9 => ?_)
    refine lv_if_eq (tgt := 1473) hx hb dL_law_1468 (by decide) (fun _ => ?_) (fun q => absurd (hv9.mpr (show ((nI (lksF ((sa (mS σ.2.1) 11 (lkA (ix (xs (7 * i + 1))) (xs (7 * i + 2))) (xs (7 * i + 3))).2.1 11) (xs (7 * i + 3)))).toInt64) = (y).toInt64 from by subst hy; rfl)) q)
    refine lv_goto (tgt := 2489) hx hb dL_law_1473 (by decide) ?_
    refine lv_iinc (v := (nI (7 * (i + 1)))) (lv' := [(4, .int (nI (7 * (i + 1)))), (6, .int y), (5, .int (kLo (mS σ.2.1) nL (xs (7 * i + 1)) (xs (7 * i + 2)) (xs (7 * i + 3)))), (0, .ref b), (1, .ref o), (2, .ref M), (3, .ref ou)]) hx hb dL_law_2489 hl (k := 6) rfl (ni_inc7 i) (by decide) rfl (fun ls hl => ?_)
    refine lv_goto (tgt := 23) hx hb dL_law_2492 (by decide) ?_
    exact W.widen (k := 40 + 10 * (i + 1)) (n := 70000 + 1200 * (i + 1)) (by omega) (by omega) (ih _ _ _ (li_end hou9 ⟨_, hO⟩ hM2 hp hn hC2 (hi.lo (kLk_0 (kLo_0 hk)).1 (kLk_0 (kLo_0 hk)).2.1 (okO_pos (kLk_0 (kLo_0 hk)).2.2).1) (by omega)) hS (lv_sub hl [3, 4, 5, 6, 0] rfl))
  · have hC2 := hP.same (fun q g1 g2 => q8 q g1 (fun h => g2.2.1 h))
    have hO := x_kept hO (q8 _ (q_lt hO) (fun h => absurd h.2 (Nat.lt_irrefl _)))
    have hp := hne hk
    refine lv_iload hx hb dL_law_1456 (lv_at hl 1 rfl) ?_
    refine lv_if_ne (tgt := 1473) hx hb dL_law_1458 (by decide) (fun _ => ?_) (fun q => absurd q hk)
    refine lv_goto (tgt := 2489) hx hb dL_law_1473 (by decide) ?_
    refine lv_iinc (v := (nI (7 * (i + 1)))) (lv' := [(4, .int (nI (7 * (i + 1)))), (6, .int y), (5, .int (kLo (mS σ.2.1) nL (xs (7 * i + 1)) (xs (7 * i + 2)) (xs (7 * i + 3)))), (0, .ref b), (1, .ref o), (2, .ref M), (3, .ref ou)]) hx hb dL_law_2489 hl (k := 6) rfl (ni_inc7 i) (by decide) rfl (fun ls hl => ?_)
    refine lv_goto (tgt := 23) hx hb dL_law_2492 (by decide) ?_
    exact W.widen (k := 40 + 10 * (i + 1)) (n := 70000 + 1200 * (i + 1)) (by omega) (by omega) (ih _ _ _ (li_end hou9 ⟨_, hO⟩ hM2 hp hn hC2 hi (by omega)) hS (lv_sub hl [3, 4, 5, 6, 0] rfl))
