set_option maxHeartbeats 4000000 in
set_option maxRecDepth 100000 in
theorem c_X6_lock (l : Launch) (hst : l.stackTraces = false) (D : va_G) (cA : Nat → ClassId) (lab : Nat → Nat) (nm : Nat → Nat → Nat) (rf : Nat → Nat → Option Nat) (f : Nat → Nat → Int32) (nC nL nV : Nat) (hi : CRi f nC nL nV) (A : Nat → Prop) (hl9 : CRl A lab nm rf nC nL) (H9 : Heap) (p1 : Int32) (p2 : Int32) (p3 : Int32) : vx_Met l yX6_lock wsX6_lock (rmK 41 3 18) (xPX D cA (fun U => pK A (nm 12 0) U) [.ref (nm 0 0), .int p1, .int p2, .int p3] (fun H => H = H9 ∧ CRv D cA lab nm rf f nC nL nV H ∧ IQ0 D cA nm H)) (xW (pJ (kLo (mS f) nL p1 p2 p3) (some (.int (nI (lksF ((sa (mS f) 11 (lkA (ix p1) p2) p3).2.1 11) p3)))) (CS D cA A (nm 12 0) (nm 0 0) ((sa (mS f) 11 (lkA (ix p1) p2) p3).2.1) nC nL nV)) A) (xT (kLo (mS f) nL p1 p2 p3) (fun k => (if k = 1 then eI else (if k = 2 then eA else eS))) (CS D cA A (nm 12 0) (nm 0 0) f nC nL nV) A) 3 18 A := by
  refine vx_ofW (cc := cX6_lock) (maxL := 5) (ret := (some .int)) (by decide) rfl ?_
  intro p e s m args below meth c s₁ B hml ht hv
  obtain ⟨rfl, ⟨hK, hX⟩, hI⟩ := hv
  have hx := B.exec
  have hb := B.bytes
  have hr := B.returns
  have hts := atoms_spec (ws := wsX6_lock) B.pre
  have hown : s.vm.findClass RX6 = some m.cls := findClass_of_methodNamed B.named
  have hlocks := B.notSynchronized
  have hl := lv_entry ([.ref (nm 0 0), .int p1, .int p2, .int p3]) (n := 5) (Nat.le_of_ble_eq_true rfl)
  rw [lg_entry_eq]
  generalize (lg_sl ([.ref (nm 0 0), .int p1, .int p2, .int p3]) ++ List.replicate (5 - (lg_sl ([.ref (nm 0 0), .int p1, .int p2, .int p3])).length) Slot.unset).toArray = ls at hl ⊢
  have hl : lv_has ls 5 [(0, .ref (nm 0 0)), (1, .int p1), (2, .int p2), (3, .int p3)] := hl
  have h_X4 : ∀ w ∈ wsX40, w ∈ wsX6_lock := fun _ h => List.mem_cons_of_mem _ (List.mem_append_left _ (List.mem_append_left _ (List.mem_append_left _ (List.mem_append_left _ (List.mem_append_right _ h)))))
  have h_X6 : ∀ w ∈ wsX60, w ∈ wsX6_lock := fun _ h => List.mem_cons_of_mem _ (List.mem_append_left _ (List.mem_append_left _ (List.mem_append_left _ (List.mem_append_left _ (List.mem_append_left _ (List.mem_append_right _ h))))))
  have h_Jx4a65c : ∀ w ∈ wsJx4a65c0, w ∈ wsX6_lock := fun _ h => List.mem_cons_of_mem _ (List.mem_append_left _ (List.mem_append_left _ (List.mem_append_left _ (List.mem_append_right _ h))))
  obtain ⟨hH9, hI, hIQ⟩ := hI
  subst hH9
  have hV := hI
  have hi0 := hi
  obtain ⟨hT, ⟨mcC, dC, capC, fC, hOC, hQC, hnC, hcC, hfC, -⟩, ⟨mcL, dL, capL, fL, hOL, hQL, hnL, hcL, hfL, -⟩, ⟨mcV, dV, capV, fV, hOV, hQV, hnV, hcV, hfV, -⟩, hC, hL, hHo, hRo, hCh, hRl, hEn⟩ := hI
  obtain ⟨b1, b2, b3, iSel, iGd, iCur, iZero, iLk, iLkA, iLkB⟩ := hi
  have hS : va_S A s.heap s.heap [] := va_S.rf
  have hCS0 : CS D cA A (nm 12 0) (nm 0 0) f nC nL nV s.heap := ⟨lab, nm, rf, hV, hl9, hIQ, rfl, rfl⟩
  refine lv_aload_n hx hb dX6_lock_0 rfl (lv_at hl 0 rfl) ?_
  refine lv_iload_n hx hb dX6_lock_1 rfl (lv_at hl 1 rfl) ?_
  refine xr_call (va_runV (As := [.int p1]) (rest := []) ⟨hx, hb, hml, hown, hts⟩ (c_X6_isLayer l D cA lab nm rf f nC nL nV (⟨b1, b2, b3, iSel, iGd, iCur, iZero, iLk, iLkA, iLkB⟩) p1) (cwV 1 hts gX6_lock_X6_isLayer rfl rfl rfl (by decide +kernel) ⟨Nat.le_of_ble_eq_true rfl, Nat.le_of_ble_eq_true rfl⟩) (xPV hK hT rfl hV) rfl rfl hl.1 rfl (lv_room (Nat.le_of_ble_eq_true rfl)) dX6_lock_2 ⟨Nat.le_of_ble_eq_true rfl, Nat.le_of_ble_eq_true rfl⟩) ?_
  refine xb_eq (tgt := 19) hx hb dX6_lock_5 (by decide) (fun c_1 => ?_) (fun c_1 => ?_)
  · refine lv_iconst (v := 0) hx hb dX6_lock_19 (by decide) ?_
    refine xx_check (E0 := eI) (vx_runS (As := [.int 0]) (rest := []) ⟨hx, hb, hml, hown, hts⟩ (c_X6_checkThere l hst D cA A false 0 (by decide)) (va_cwS 1 hts gX6_lock_X6_checkThere rfl rfl rfl (by decide +kernel) ⟨Nat.le_of_ble_eq_true rfl, Nat.le_of_ble_eq_true rfl⟩) (xPXS hK tK.blind (fun U hU hW => hX.2.at hS (fun _ h => h) hU hW) trivial) rfl rfl hl.1 rfl (lv_room (Nat.le_of_ble_eq_true rfl)) dX6_lock_20 ⟨Nat.le_of_ble_eq_true rfl, Nat.le_of_ble_eq_true rfl⟩) hS (fun b_2 ce q9 H1 z1 k1 hS1 g1 g2 g3 => ?_) (fun b_2 => ?_)
    · have hk9 : kLo (mS f) nL p1 p2 p3 = 1 := by simp [kLo, kLk, mS, c_1]
      exact vx_out (fun x hx => (ht x hx).elim) hlocks g1 g2 g3 (fun t ht9 _ => ⟨by rw [hk9]; decide, by rw [hk9] <;> rfl, by rw [ht9]; exact hCS0.same (fun q h1 _ => k1 q h1), hS1.F ht9⟩) hS1.2.2 (Nat.le_of_ble_eq_true rfl) (Nat.le_of_ble_eq_true rfl)
    · exact absurd b_2 (by decide)
  · refine lv_iload_n hx hb dX6_lock_8 rfl (lv_at hl 2 rfl) ?_
    refine xr_call (va_runS (As := [.int p2]) (rest := []) ⟨hx, hb, hml, hown, hts⟩ (c_X6_isLockable l D cA p2) (va_cwS 1 hts gX6_lock_X6_isLockable rfl rfl rfl (by decide +kernel) ⟨Nat.le_of_ble_eq_true rfl, Nat.le_of_ble_eq_true rfl⟩) (xPS hK trivial) rfl rfl hl.1 rfl (lv_room (Nat.le_of_ble_eq_true rfl)) dX6_lock_9 ⟨Nat.le_of_ble_eq_true rfl, Nat.le_of_ble_eq_true rfl⟩) ?_
    refine xb_eq (tgt := 19) hx hb dX6_lock_12 (by decide) (fun c_3 => ?_) (fun c_3 => ?_)
    · refine lv_iconst (v := 0) hx hb dX6_lock_19 (by decide) ?_
      refine xx_check (E0 := eI) (vx_runS (As := [.int 0]) (rest := []) ⟨hx, hb, hml, hown, hts⟩ (c_X6_checkThere l hst D cA A false 0 (by decide)) (va_cwS 1 hts gX6_lock_X6_checkThere rfl rfl rfl (by decide +kernel) ⟨Nat.le_of_ble_eq_true rfl, Nat.le_of_ble_eq_true rfl⟩) (xPXS hK tK.blind (fun U hU hW => hX.2.at hS (fun _ h => h) hU hW) trivial) rfl rfl hl.1 rfl (lv_room (Nat.le_of_ble_eq_true rfl)) dX6_lock_20 ⟨Nat.le_of_ble_eq_true rfl, Nat.le_of_ble_eq_true rfl⟩) hS (fun b_4 ce q9 H1 z1 k1 hS1 g1 g2 g3 => ?_) (fun b_4 => ?_)
      · have hk9 : kLo (mS f) nL p1 p2 p3 = 1 := by simp [kLo, kLk, mS, c_1, c_3]
        exact vx_out (fun x hx => (ht x hx).elim) hlocks g1 g2 g3 (fun t ht9 _ => ⟨by rw [hk9]; decide, by rw [hk9] <;> rfl, by rw [ht9]; exact hCS0.same (fun q h1 _ => k1 q h1), hS1.F ht9⟩) hS1.2.2 (Nat.le_of_ble_eq_true rfl) (Nat.le_of_ble_eq_true rfl)
      · exact absurd b_4 (by decide)
    · refine lv_iconst (v := 1) hx hb dX6_lock_15 (by decide) ?_
      refine lv_goto (tgt := 20) hx hb dX6_lock_16 (by decide) ?_
      refine xx_check (E0 := eI) (vx_runS (As := [.int 1]) (rest := []) ⟨hx, hb, hml, hown, hts⟩ (c_X6_checkThere l hst D cA A true 1 (by decide)) (va_cwS 1 hts gX6_lock_X6_checkThere rfl rfl rfl (by decide +kernel) ⟨Nat.le_of_ble_eq_true rfl, Nat.le_of_ble_eq_true rfl⟩) (xPXS hK tK.blind (fun U hU hW => hX.2.at hS (fun _ h => h) hU hW) trivial) rfl rfl hl.1 rfl (lv_room (Nat.le_of_ble_eq_true rfl)) dX6_lock_20 ⟨Nat.le_of_ble_eq_true rfl, Nat.le_of_ble_eq_true rfl⟩) hS (fun b_5 ce q9 H1 z1 k1 hS1 g1 g2 g3 => ?_) (fun b_5 => ?_)
      · exact absurd b_5 (by decide)
      · have _b_5 := b_5
        obtain ⟨ip1, hip1, ep1⟩ := okN_of (n := nL) (v := p1) (by omega) (by have h9 := c_1; (try simp only [Bool.and_eq_true] at h9); simp [h9])
        subst ep1
        rcases (show p2 = -1 ∨ okS p2 = true from by have h9 := c_3; simpa [Bool.or_eq_true] using h9) with hv8 | hv8
        · subst hv8
          refine lv_iload_n hx hb dX6_lock_23 rfl (lv_at hl 3 rfl) ?_
          refine xr_call (va_runS (As := [.int p3]) (rest := []) ⟨hx, hb, hml, hown, hts⟩ (c_X6_isOwner l D cA p3) (va_cwS 1 hts gX6_lock_X6_isOwner rfl rfl rfl (by decide +kernel) ⟨Nat.le_of_ble_eq_true rfl, Nat.le_of_ble_eq_true rfl⟩) (xPS hK trivial) rfl rfl hl.1 rfl (lv_room (Nat.le_of_ble_eq_true rfl)) dX6_lock_24 ⟨Nat.le_of_ble_eq_true rfl, Nat.le_of_ble_eq_true rfl⟩) ?_
          refine xx_check (E0 := eA) (vx_runS (As := [.int (bI (okO p3))]) (rest := []) ⟨hx, hb, hml, hown, hts⟩ (c_X6_checkArgument l hst D cA A (okO p3) (bI (okO p3)) rfl) (va_cwS 1 hts gX6_lock_X6_checkArgument rfl rfl rfl (by decide +kernel) ⟨Nat.le_of_ble_eq_true rfl, Nat.le_of_ble_eq_true rfl⟩) (xPXS hK tK.blind (fun U hU hW => hX.2.at hS (fun _ h => h) hU hW) trivial) rfl rfl hl.1 rfl (lv_room (Nat.le_of_ble_eq_true rfl)) dX6_lock_27 ⟨Nat.le_of_ble_eq_true rfl, Nat.le_of_ble_eq_true rfl⟩) hS (fun b_6 ce q9 H1 z1 k1 hS1 g1 g2 g3 => ?_) (fun b_6 => ?_)
          · have hk9 : kLo (mS f) nL (nI ip1) (-1) p3 = 2 := by simp [kLo, kLk, mS, ix_nI (show ip1 < 65536 by omega), c_1, c_3, b_6]
            exact vx_out (fun x hx => (ht x hx).elim) hlocks g1 g2 g3 (fun t ht9 _ => ⟨by rw [hk9]; decide, by rw [hk9] <;> rfl, by rw [ht9]; exact hCS0.same (fun q h1 _ => k1 q h1), hS1.F ht9⟩) hS1.2.2 (Nat.le_of_ble_eq_true rfl) (Nat.le_of_ble_eq_true rfl)
          · have _b_6 := b_6
            refine lv_aload_n hx hb dX6_lock_30 rfl (lv_at hl 0 rfl) ?_
            refine x_get (v := .ref (nm 1 1)) hx hb hts h_X6 hown hK hT rfl 1 (by decide) (hts (.fieldLink RX6 16 "ConfigBeacon" "allLayers" "Ljava/util/ArrayList;") (by decide +kernel)) (fun _ h => h) rfl dX6_lock_31 ?_
            refine lv_iload_n hx hb dX6_lock_34 rfl (lv_at hl 1 rfl) ?_
            refine xr_call (va_runV (As := [.int (nI ip1)]) (rest := []) ⟨hx, hb, hml, hown, hts⟩ (c_Jx4a65c_get_915e3 l D cA (nm 1 1) mcL dL nL capL fL ip1 (by omega) hnL hcL (some (nm 3 ip1)) (hfL ip1 (by omega))) (cwV 1 hts gX6_lock_Jx4a65c_get_915e3 rfl rfl rfl (by decide +kernel) ⟨Nat.le_of_ble_eq_true rfl, Nat.le_of_ble_eq_true rfl⟩) (xPV hK hOL rfl ⟨hOL, hQL (by omega)⟩) rfl rfl hl.1 rfl (lv_room (Nat.le_of_ble_eq_true rfl)) dX6_lock_35 ⟨Nat.le_of_ble_eq_true rfl, Nat.le_of_ble_eq_true rfl⟩) ?_
            refine x_cast hx hb hown (hts (.classLink RX6 84 "ConfigBeacon$Layer") (by decide +kernel)) hK (hL ip1 (by omega)) rfl dX6_lock_38 ?_
            refine lv_astore (lv' := [(4, .ref (nm 3 ip1)), (0, .ref (nm 0 0)), (1, .int (nI ip1)), (2, .int (-1)), (3, .int p3)]) hx hb dX6_lock_41 hl (by decide) rfl (fun ls hl => ?_)
            refine lv_aload hx hb dX6_lock_43 (lv_at hl 0 rfl) ?_
            refine lv_iload_n hx hb dX6_lock_45 rfl (lv_at hl 3 rfl) ?_
            refine lv_iload_n hx hb dX6_lock_46 rfl (lv_at hl 4 rfl) ?_
            refine xr_call (va_runV (As := [.int (-1), .int p3]) (rest := []) ⟨hx, hb, hml, hown, hts⟩ (c_X4_canBeHeld l D cA (nm 3 ip1) ip1 (f 4 ip1) (f 5 ip1) (f 3 ip1) (nm 4 ip1) (nm 5 ip1) (nm 6 ip1) (hoF f ip1) (-1) p3 (Or.inl rfl)) (cwV 2 hts gX6_lock_X4_canBeHeld rfl rfl rfl (by decide +kernel) ⟨Nat.le_of_ble_eq_true rfl, Nat.le_of_ble_eq_true rfl⟩) (xPV hK (hL ip1 (by omega)) rfl ⟨hL ip1 (by omega), hHo ip1 (by omega)⟩) rfl rfl hl.1 rfl (lv_room (Nat.le_of_ble_eq_true rfl)) dX6_lock_47 ⟨Nat.le_of_ble_eq_true rfl, Nat.le_of_ble_eq_true rfl⟩) ?_
            refine xx_check (E0 := eS) (vx_runS (As := [.int (bI (cbF (hoF f ip1) (-1) p3))]) (rest := []) ⟨hx, hb, hml, hown, hts⟩ (c_X6_checkState l hst D cA A (cbF (hoF f ip1) (-1) p3) (bI (cbF (hoF f ip1) (-1) p3)) rfl) (va_cwS 1 hts gX6_lock_X6_checkState rfl rfl rfl (by decide +kernel) ⟨Nat.le_of_ble_eq_true rfl, Nat.le_of_ble_eq_true rfl⟩) (xPXS hK tK.blind (fun U hU hW => hX.2.at hS (fun _ h => h) hU hW) trivial) rfl rfl hl.1 rfl (lv_room (Nat.le_of_ble_eq_true rfl)) dX6_lock_50 ⟨Nat.le_of_ble_eq_true rfl, Nat.le_of_ble_eq_true rfl⟩) hS (fun b_7 ce q9 H1 z1 k1 hS1 g1 g2 g3 => ?_) (fun b_7 => ?_)
            · have hk9 : kLo (mS f) nL (nI ip1) (-1) p3 = 3 := by have h9 := b_7; rw [cb_bar iLk (Or.inl rfl)] at h9; (try simp only [Bool.not_eq_true', Bool.not_eq_false'] at h9); simp [kLo, kLk, mS, ix_nI (show ip1 < 65536 by omega), c_1, c_3, b_6, h9]
              exact vx_out (fun x hx => (ht x hx).elim) hlocks g1 g2 g3 (fun t ht9 _ => ⟨by rw [hk9]; decide, by rw [hk9] <;> rfl, by rw [ht9]; exact hCS0.same (fun q h1 _ => k1 q h1), hS1.F ht9⟩) hS1.2.2 (Nat.le_of_ble_eq_true rfl) (Nat.le_of_ble_eq_true rfl)
            · have _b_7 := b_7
              refine lv_aload hx hb dX6_lock_53 (lv_at hl 0 rfl) ?_
              refine x_getN (v := .ref (nm 4 ip1)) hx hb hts h_X4 hown hK (hL ip1 (by omega)) rfl 4 (by decide) (va_Nw.use rfl (hK.2.2.1 ("ConfigBeacon", 180, "ConfigBeacon$Layer", "holders", "[I") (by decide))) (fun _ h => h) rfl dX6_lock_55 ?_
              refine lv_iload_n hx hb dX6_lock_58 rfl (lv_at hl 3 rfl) ?_
              refine xr_call (va_runS (As := [.int (-1)]) (rest := [.ref (nm 4 ip1)]) ⟨hx, hb, hml, hown, hts⟩ (c_X4_lockOf l D cA (-1)) (va_cwS 1 hts gX6_lock_X4_lockOf rfl rfl rfl (by decide +kernel) ⟨Nat.le_of_ble_eq_true rfl, Nat.le_of_ble_eq_true rfl⟩) (xPS hK trivial) rfl rfl hl.1 rfl (lv_room (Nat.le_of_ble_eq_true rfl)) dX6_lock_59 ⟨Nat.le_of_ble_eq_true rfl, Nat.le_of_ble_eq_true rfl⟩) ?_
              refine xe_top (y := nI 16) rfl ?_
              refine lv_iload_n hx hb dX6_lock_62 rfl (lv_at hl 4 rfl) ?_
              have hA1 : A (nm 4 ip1) := hl9.1 _ (by rw [(hl9.2.2.2.2.2.2.2.2.1 ip1 (by omega)).2.1]; omega)
              refine x_iast hx hb hK (hHo ip1 (by omega)) hS hA1 16 rfl (by omega) (by decide) dX6_lock_63 (fun H locs hW1 z9 q9 hS => ?_)
              obtain ⟨hV2, hIQ2⟩ := lk_CRv (k := 16) hV hl9 hIQ hip1 b2 b1 (by omega) (fun q _ h => q9 q h) hW1
              have hO9 := okO_pos b_6
              refine lv_aload_n hx hb dX6_lock_64 rfl (lv_at hl 1 rfl) ?_
              refine lv_iload_n hx hb dX6_lock_65 rfl (lv_at hl 4 rfl) ?_
              refine xr_call (va_runV (As := [.int p3]) (rest := []) ⟨hx, hb, hml, hown, hts⟩ (c_X6_countLocks l D cA lab nm rf (mup f 11 (hoA ip1 16) p3) nC nL nV (hi0.lk hip1 hO9.1) p3) (cwV 1 hts gX6_lock_X6_countLocks rfl rfl rfl (by decide +kernel) ⟨Nat.le_of_ble_eq_true rfl, Nat.le_of_ble_eq_true rfl⟩) (xPV hK hV2.1 rfl hV2) rfl rfl hl.1 rfl (lv_room (Nat.le_of_ble_eq_true rfl)) dX6_lock_66 ⟨Nat.le_of_ble_eq_true rfl, Nat.le_of_ble_eq_true rfl⟩) ?_
              refine vx_ret ?_
              exact xw_iret hx hb hr hlocks hS ⟨(by have h9 := b_7; rw [cb_bar iLk (Or.inl rfl)] at h9; (try simp only [Bool.not_eq_true', Bool.not_eq_false'] at h9); simp [kLo, kLk, mS, ix_nI (show ip1 < 65536 by omega), c_1, c_3, b_6, h9]), (by show some (Value.int (nI (smF (fun j => cntF (fun k => decide (hoF (mup f 11 (hoA ip1 16) p3) j k = p3)) 17) nL))) = some (Value.int (nI (lksF (mup f 11 (lkA (ix (nI ip1)) (-1)) p3 11) p3))); rw [(lk_A (i := ip1) (by omega)), lks_sm (hi0.lk hip1 hO9.1) hO9.2]), (by show CS D cA A (nm 12 0) (nm 0 0) (mup f 11 (lkA (ix (nI ip1)) (-1)) p3) nC nL nV H; rw [(lk_A (i := ip1) (by omega))]; exact ⟨lab, nm, rf, hV2, hl9, hIQ2, rfl, rfl⟩)⟩ (Nat.le_of_ble_eq_true rfl) (Nat.le_of_ble_eq_true rfl) dX6_lock_69
        · obtain ⟨ip2, hip2, ep2⟩ := okS_of hv8
          subst ep2
          refine lv_iload_n hx hb dX6_lock_23 rfl (lv_at hl 3 rfl) ?_
          refine xr_call (va_runS (As := [.int p3]) (rest := []) ⟨hx, hb, hml, hown, hts⟩ (c_X6_isOwner l D cA p3) (va_cwS 1 hts gX6_lock_X6_isOwner rfl rfl rfl (by decide +kernel) ⟨Nat.le_of_ble_eq_true rfl, Nat.le_of_ble_eq_true rfl⟩) (xPS hK trivial) rfl rfl hl.1 rfl (lv_room (Nat.le_of_ble_eq_true rfl)) dX6_lock_24 ⟨Nat.le_of_ble_eq_true rfl, Nat.le_of_ble_eq_true rfl⟩) ?_
          refine xx_check (E0 := eA) (vx_runS (As := [.int (bI (okO p3))]) (rest := []) ⟨hx, hb, hml, hown, hts⟩ (c_X6_checkArgument l hst D cA A (okO p3) (bI (okO p3)) rfl) (va_cwS 1 hts gX6_lock_X6_checkArgument rfl rfl rfl (by decide +kernel) ⟨Nat.le_of_ble_eq_true rfl, Nat.le_of_ble_eq_true rfl⟩) (xPXS hK tK.blind (fun U hU hW => hX.2.at hS (fun _ h => h) hU hW) trivial) rfl rfl hl.1 rfl (lv_room (Nat.le_of_ble_eq_true rfl)) dX6_lock_27 ⟨Nat.le_of_ble_eq_true rfl, Nat.le_of_ble_eq_true rfl⟩) hS (fun b_8 ce q9 H1 z1 k1 hS1 g1 g2 g3 => ?_) (fun b_8 => ?_)
          · have hk9 : kLo (mS f) nL (nI ip1) (nI ip2) p3 = 2 := by simp [kLo, kLk, mS, ix_nI (show ip1 < 65536 by omega), c_1, c_3, b_8]
            exact vx_out (fun x hx => (ht x hx).elim) hlocks g1 g2 g3 (fun t ht9 _ => ⟨by rw [hk9]; decide, by rw [hk9] <;> rfl, by rw [ht9]; exact hCS0.same (fun q h1 _ => k1 q h1), hS1.F ht9⟩) hS1.2.2 (Nat.le_of_ble_eq_true rfl) (Nat.le_of_ble_eq_true rfl)
          · have _b_8 := b_8
            refine lv_aload_n hx hb dX6_lock_30 rfl (lv_at hl 0 rfl) ?_
            refine x_get (v := .ref (nm 1 1)) hx hb hts h_X6 hown hK hT rfl 1 (by decide) (hts (.fieldLink RX6 16 "ConfigBeacon" "allLayers" "Ljava/util/ArrayList;") (by decide +kernel)) (fun _ h => h) rfl dX6_lock_31 ?_
            refine lv_iload_n hx hb dX6_lock_34 rfl (lv_at hl 1 rfl) ?_
            refine xr_call (va_runV (As := [.int (nI ip1)]) (rest := []) ⟨hx, hb, hml, hown, hts⟩ (c_Jx4a65c_get_915e3 l D cA (nm 1 1) mcL dL nL capL fL ip1 (by omega) hnL hcL (some (nm 3 ip1)) (hfL ip1 (by omega))) (cwV 1 hts gX6_lock_Jx4a65c_get_915e3 rfl rfl rfl (by decide +kernel) ⟨Nat.le_of_ble_eq_true rfl, Nat.le_of_ble_eq_true rfl⟩) (xPV hK hOL rfl ⟨hOL, hQL (by omega)⟩) rfl rfl hl.1 rfl (lv_room (Nat.le_of_ble_eq_true rfl)) dX6_lock_35 ⟨Nat.le_of_ble_eq_true rfl, Nat.le_of_ble_eq_true rfl⟩) ?_
            refine x_cast hx hb hown (hts (.classLink RX6 84 "ConfigBeacon$Layer") (by decide +kernel)) hK (hL ip1 (by omega)) rfl dX6_lock_38 ?_
            refine lv_astore (lv' := [(4, .ref (nm 3 ip1)), (0, .ref (nm 0 0)), (1, .int (nI ip1)), (2, .int (nI ip2)), (3, .int p3)]) hx hb dX6_lock_41 hl (by decide) rfl (fun ls hl => ?_)
            refine lv_aload hx hb dX6_lock_43 (lv_at hl 0 rfl) ?_
            refine lv_iload_n hx hb dX6_lock_45 rfl (lv_at hl 3 rfl) ?_
            refine lv_iload_n hx hb dX6_lock_46 rfl (lv_at hl 4 rfl) ?_
            refine xr_call (va_runV (As := [.int (nI ip2), .int p3]) (rest := []) ⟨hx, hb, hml, hown, hts⟩ (c_X4_canBeHeld l D cA (nm 3 ip1) ip1 (f 4 ip1) (f 5 ip1) (f 3 ip1) (nm 4 ip1) (nm 5 ip1) (nm 6 ip1) (hoF f ip1) (nI ip2) p3 (Or.inr hv8)) (cwV 2 hts gX6_lock_X4_canBeHeld rfl rfl rfl (by decide +kernel) ⟨Nat.le_of_ble_eq_true rfl, Nat.le_of_ble_eq_true rfl⟩) (xPV hK (hL ip1 (by omega)) rfl ⟨hL ip1 (by omega), hHo ip1 (by omega)⟩) rfl rfl hl.1 rfl (lv_room (Nat.le_of_ble_eq_true rfl)) dX6_lock_47 ⟨Nat.le_of_ble_eq_true rfl, Nat.le_of_ble_eq_true rfl⟩) ?_
            refine xx_check (E0 := eS) (vx_runS (As := [.int (bI (cbF (hoF f ip1) (nI ip2) p3))]) (rest := []) ⟨hx, hb, hml, hown, hts⟩ (c_X6_checkState l hst D cA A (cbF (hoF f ip1) (nI ip2) p3) (bI (cbF (hoF f ip1) (nI ip2) p3)) rfl) (va_cwS 1 hts gX6_lock_X6_checkState rfl rfl rfl (by decide +kernel) ⟨Nat.le_of_ble_eq_true rfl, Nat.le_of_ble_eq_true rfl⟩) (xPXS hK tK.blind (fun U hU hW => hX.2.at hS (fun _ h => h) hU hW) trivial) rfl rfl hl.1 rfl (lv_room (Nat.le_of_ble_eq_true rfl)) dX6_lock_50 ⟨Nat.le_of_ble_eq_true rfl, Nat.le_of_ble_eq_true rfl⟩) hS (fun b_9 ce q9 H1 z1 k1 hS1 g1 g2 g3 => ?_) (fun b_9 => ?_)
            · have hk9 : kLo (mS f) nL (nI ip1) (nI ip2) p3 = 3 := by have h9 := b_9; rw [cb_bar iLk (Or.inr hv8)] at h9; (try simp only [Bool.not_eq_true', Bool.not_eq_false'] at h9); simp [kLo, kLk, mS, ix_nI (show ip1 < 65536 by omega), c_1, c_3, b_8, h9]
              exact vx_out (fun x hx => (ht x hx).elim) hlocks g1 g2 g3 (fun t ht9 _ => ⟨by rw [hk9]; decide, by rw [hk9] <;> rfl, by rw [ht9]; exact hCS0.same (fun q h1 _ => k1 q h1), hS1.F ht9⟩) hS1.2.2 (Nat.le_of_ble_eq_true rfl) (Nat.le_of_ble_eq_true rfl)
            · have _b_9 := b_9
              refine lv_aload hx hb dX6_lock_53 (lv_at hl 0 rfl) ?_
              refine x_getN (v := .ref (nm 4 ip1)) hx hb hts h_X4 hown hK (hL ip1 (by omega)) rfl 4 (by decide) (va_Nw.use rfl (hK.2.2.1 ("ConfigBeacon", 180, "ConfigBeacon$Layer", "holders", "[I") (by decide))) (fun _ h => h) rfl dX6_lock_55 ?_
              refine lv_iload_n hx hb dX6_lock_58 rfl (lv_at hl 3 rfl) ?_
              refine xr_call (va_runS (As := [.int (nI ip2)]) (rest := [.ref (nm 4 ip1)]) ⟨hx, hb, hml, hown, hts⟩ (c_X4_lockOf l D cA (nI ip2)) (va_cwS 1 hts gX6_lock_X4_lockOf rfl rfl rfl (by decide +kernel) ⟨Nat.le_of_ble_eq_true rfl, Nat.le_of_ble_eq_true rfl⟩) (xPS hK trivial) rfl rfl hl.1 rfl (lv_room (Nat.le_of_ble_eq_true rfl)) dX6_lock_59 ⟨Nat.le_of_ble_eq_true rfl, Nat.le_of_ble_eq_true rfl⟩) ?_
              refine xe_top (y := nI ip2) (if_neg (nI_m1 (by omega))) ?_
              refine lv_iload_n hx hb dX6_lock_62 rfl (lv_at hl 4 rfl) ?_
              have hA1 : A (nm 4 ip1) := hl9.1 _ (by rw [(hl9.2.2.2.2.2.2.2.2.1 ip1 (by omega)).2.1]; omega)
              refine x_iast hx hb hK (hHo ip1 (by omega)) hS hA1 ip2 rfl (by omega) (by decide) dX6_lock_63 (fun H locs hW1 z9 q9 hS => ?_)
              obtain ⟨hV2, hIQ2⟩ := lk_CRv (k := ip2) hV hl9 hIQ hip1 b2 b1 (by omega) (fun q _ h => q9 q h) hW1
              have hO9 := okO_pos b_8
              refine lv_aload_n hx hb dX6_lock_64 rfl (lv_at hl 1 rfl) ?_
              refine lv_iload_n hx hb dX6_lock_65 rfl (lv_at hl 4 rfl) ?_
              refine xr_call (va_runV (As := [.int p3]) (rest := []) ⟨hx, hb, hml, hown, hts⟩ (c_X6_countLocks l D cA lab nm rf (mup f 11 (hoA ip1 ip2) p3) nC nL nV (hi0.lk hip1 hO9.1) p3) (cwV 1 hts gX6_lock_X6_countLocks rfl rfl rfl (by decide +kernel) ⟨Nat.le_of_ble_eq_true rfl, Nat.le_of_ble_eq_true rfl⟩) (xPV hK hV2.1 rfl hV2) rfl rfl hl.1 rfl (lv_room (Nat.le_of_ble_eq_true rfl)) dX6_lock_66 ⟨Nat.le_of_ble_eq_true rfl, Nat.le_of_ble_eq_true rfl⟩) ?_
              refine vx_ret ?_
              exact xw_iret hx hb hr hlocks hS ⟨(by have h9 := b_9; rw [cb_bar iLk (Or.inr hv8)] at h9; (try simp only [Bool.not_eq_true', Bool.not_eq_false'] at h9); simp [kLo, kLk, mS, ix_nI (show ip1 < 65536 by omega), c_1, c_3, b_8, h9]), (by show some (Value.int (nI (smF (fun j => cntF (fun k => decide (hoF (mup f 11 (hoA ip1 ip2) p3) j k = p3)) 17) nL))) = some (Value.int (nI (lksF (mup f 11 (lkA (ix (nI ip1)) (nI ip2)) p3 11) p3))); rw [(lk_B (i := ip1) (j := ip2) (by omega) (by omega)), lks_sm (hi0.lk hip1 hO9.1) hO9.2]), (by show CS D cA A (nm 12 0) (nm 0 0) (mup f 11 (lkA (ix (nI ip1)) (nI ip2)) p3) nC nL nV H; rw [(lk_B (i := ip1) (j := ip2) (by omega) (by omega))]; exact ⟨lab, nm, rf, hV2, hl9, hIQ2, rfl, rfl⟩)⟩ (Nat.le_of_ble_eq_true rfl) (Nat.le_of_ble_eq_true rfl) dX6_lock_69
set_option maxHeartbeats 4000000 in
set_option maxRecDepth 100000 in
theorem c_X6_unlock (l : Launch) (hst : l.stackTraces = false) (D : va_G) (cA : Nat → ClassId) (lab : Nat → Nat) (nm : Nat → Nat → Nat) (rf : Nat → Nat → Option Nat) (f : Nat → Nat → Int32) (nC nL nV : Nat) (hi : CRi f nC nL nV) (A : Nat → Prop) (hl9 : CRl A lab nm rf nC nL) (H9 : Heap) (p1 : Int32) (p2 : Int32) (p3 : Int32) : vx_Met l yX6_unlock wsX6_unlock (rmK 41 3 18) (xPX D cA (fun U => pK A (nm 12 0) U) [.ref (nm 0 0), .int p1, .int p2, .int p3] (fun H => H = H9 ∧ CRv D cA lab nm rf f nC nL nV H ∧ IQ0 D cA nm H)) (xW (pJ (kUn (mS f) nL p1 p2 p3) (some (.int (nI (lksF ((sa (mS f) 11 (lkA (ix p1) p2) 0).2.1 11) p3)))) (CS D cA A (nm 12 0) (nm 0 0) ((sa (mS f) 11 (lkA (ix p1) p2) 0).2.1) nC nL nV)) A) (xT (kUn (mS f) nL p1 p2 p3) (fun k => (if k = 1 then eI else (if k = 2 then eA else eS))) (CS D cA A (nm 12 0) (nm 0 0) f nC nL nV) A) 3 18 A := by
  refine vx_ofW (cc := cX6_unlock) (maxL := 6) (ret := (some .int)) (by decide) rfl ?_
  intro p e s m args below meth c s₁ B hml ht hv
  obtain ⟨rfl, ⟨hK, hX⟩, hI⟩ := hv
  have hx := B.exec
  have hb := B.bytes
  have hr := B.returns
  have hts := atoms_spec (ws := wsX6_unlock) B.pre
  have hown : s.vm.findClass RX6 = some m.cls := findClass_of_methodNamed B.named
  have hlocks := B.notSynchronized
  have hl := lv_entry ([.ref (nm 0 0), .int p1, .int p2, .int p3]) (n := 6) (Nat.le_of_ble_eq_true rfl)
  rw [lg_entry_eq]
  generalize (lg_sl ([.ref (nm 0 0), .int p1, .int p2, .int p3]) ++ List.replicate (6 - (lg_sl ([.ref (nm 0 0), .int p1, .int p2, .int p3])).length) Slot.unset).toArray = ls at hl ⊢
  have hl : lv_has ls 6 [(0, .ref (nm 0 0)), (1, .int p1), (2, .int p2), (3, .int p3)] := hl
  have h_X4 : ∀ w ∈ wsX40, w ∈ wsX6_unlock := fun _ h => List.mem_cons_of_mem _ (List.mem_append_left _ (List.mem_append_left _ (List.mem_append_left _ (List.mem_append_left _ (List.mem_append_right _ h)))))
  have h_X6 : ∀ w ∈ wsX60, w ∈ wsX6_unlock := fun _ h => List.mem_cons_of_mem _ (List.mem_append_left _ (List.mem_append_left _ (List.mem_append_left _ (List.mem_append_left _ (List.mem_append_left _ (List.mem_append_right _ h))))))
  have h_Jx4a65c : ∀ w ∈ wsJx4a65c0, w ∈ wsX6_unlock := fun _ h => List.mem_cons_of_mem _ (List.mem_append_left _ (List.mem_append_left _ (List.mem_append_left _ (List.mem_append_right _ h))))
  obtain ⟨hH9, hI, hIQ⟩ := hI
  subst hH9
  have hV := hI
  have hi0 := hi
  obtain ⟨hT, ⟨mcC, dC, capC, fC, hOC, hQC, hnC, hcC, hfC, -⟩, ⟨mcL, dL, capL, fL, hOL, hQL, hnL, hcL, hfL, -⟩, ⟨mcV, dV, capV, fV, hOV, hQV, hnV, hcV, hfV, -⟩, hC, hL, hHo, hRo, hCh, hRl, hEn⟩ := hI
  obtain ⟨b1, b2, b3, iSel, iGd, iCur, iZero, iLk, iLkA, iLkB⟩ := hi
  have hS : va_S A s.heap s.heap [] := va_S.rf
  have hCS0 : CS D cA A (nm 12 0) (nm 0 0) f nC nL nV s.heap := ⟨lab, nm, rf, hV, hl9, hIQ, rfl, rfl⟩
  refine lv_aload_n hx hb dX6_unlock_0 rfl (lv_at hl 0 rfl) ?_
  refine lv_iload_n hx hb dX6_unlock_1 rfl (lv_at hl 1 rfl) ?_
  refine xr_call (va_runV (As := [.int p1]) (rest := []) ⟨hx, hb, hml, hown, hts⟩ (c_X6_isLayer l D cA lab nm rf f nC nL nV (⟨b1, b2, b3, iSel, iGd, iCur, iZero, iLk, iLkA, iLkB⟩) p1) (cwV 1 hts gX6_unlock_X6_isLayer rfl rfl rfl (by decide +kernel) ⟨Nat.le_of_ble_eq_true rfl, Nat.le_of_ble_eq_true rfl⟩) (xPV hK hT rfl hV) rfl rfl hl.1 rfl (lv_room (Nat.le_of_ble_eq_true rfl)) dX6_unlock_2 ⟨Nat.le_of_ble_eq_true rfl, Nat.le_of_ble_eq_true rfl⟩) ?_
  refine xb_eq (tgt := 19) hx hb dX6_unlock_5 (by decide) (fun c_1 => ?_) (fun c_1 => ?_)
  · refine lv_iconst (v := 0) hx hb dX6_unlock_19 (by decide) ?_
    refine xx_check (E0 := eI) (vx_runS (As := [.int 0]) (rest := []) ⟨hx, hb, hml, hown, hts⟩ (c_X6_checkThere l hst D cA A false 0 (by decide)) (va_cwS 1 hts gX6_unlock_X6_checkThere rfl rfl rfl (by decide +kernel) ⟨Nat.le_of_ble_eq_true rfl, Nat.le_of_ble_eq_true rfl⟩) (xPXS hK tK.blind (fun U hU hW => hX.2.at hS (fun _ h => h) hU hW) trivial) rfl rfl hl.1 rfl (lv_room (Nat.le_of_ble_eq_true rfl)) dX6_unlock_20 ⟨Nat.le_of_ble_eq_true rfl, Nat.le_of_ble_eq_true rfl⟩) hS (fun b_2 ce q9 H1 z1 k1 hS1 g1 g2 g3 => ?_) (fun b_2 => ?_)
    · have hk9 : kUn (mS f) nL p1 p2 p3 = 1 := by simp [kUn, kLk, mS, c_1]
      exact vx_out (fun x hx => (ht x hx).elim) hlocks g1 g2 g3 (fun t ht9 _ => ⟨by rw [hk9]; decide, by rw [hk9] <;> rfl, by rw [ht9]; exact hCS0.same (fun q h1 _ => k1 q h1), hS1.F ht9⟩) hS1.2.2 (Nat.le_of_ble_eq_true rfl) (Nat.le_of_ble_eq_true rfl)
    · exact absurd b_2 (by decide)
  · refine lv_iload_n hx hb dX6_unlock_8 rfl (lv_at hl 2 rfl) ?_
    refine xr_call (va_runS (As := [.int p2]) (rest := []) ⟨hx, hb, hml, hown, hts⟩ (c_X6_isLockable l D cA p2) (va_cwS 1 hts gX6_unlock_X6_isLockable rfl rfl rfl (by decide +kernel) ⟨Nat.le_of_ble_eq_true rfl, Nat.le_of_ble_eq_true rfl⟩) (xPS hK trivial) rfl rfl hl.1 rfl (lv_room (Nat.le_of_ble_eq_true rfl)) dX6_unlock_9 ⟨Nat.le_of_ble_eq_true rfl, Nat.le_of_ble_eq_true rfl⟩) ?_
    refine xb_eq (tgt := 19) hx hb dX6_unlock_12 (by decide) (fun c_3 => ?_) (fun c_3 => ?_)
    · refine lv_iconst (v := 0) hx hb dX6_unlock_19 (by decide) ?_
      refine xx_check (E0 := eI) (vx_runS (As := [.int 0]) (rest := []) ⟨hx, hb, hml, hown, hts⟩ (c_X6_checkThere l hst D cA A false 0 (by decide)) (va_cwS 1 hts gX6_unlock_X6_checkThere rfl rfl rfl (by decide +kernel) ⟨Nat.le_of_ble_eq_true rfl, Nat.le_of_ble_eq_true rfl⟩) (xPXS hK tK.blind (fun U hU hW => hX.2.at hS (fun _ h => h) hU hW) trivial) rfl rfl hl.1 rfl (lv_room (Nat.le_of_ble_eq_true rfl)) dX6_unlock_20 ⟨Nat.le_of_ble_eq_true rfl, Nat.le_of_ble_eq_true rfl⟩) hS (fun b_4 ce q9 H1 z1 k1 hS1 g1 g2 g3 => ?_) (fun b_4 => ?_)
      · have hk9 : kUn (mS f) nL p1 p2 p3 = 1 := by simp [kUn, kLk, mS, c_1, c_3]
        exact vx_out (fun x hx => (ht x hx).elim) hlocks g1 g2 g3 (fun t ht9 _ => ⟨by rw [hk9]; decide, by rw [hk9] <;> rfl, by rw [ht9]; exact hCS0.same (fun q h1 _ => k1 q h1), hS1.F ht9⟩) hS1.2.2 (Nat.le_of_ble_eq_true rfl) (Nat.le_of_ble_eq_true rfl)
      · exact absurd b_4 (by decide)
    · refine lv_iconst (v := 1) hx hb dX6_unlock_15 (by decide) ?_
      refine lv_goto (tgt := 20) hx hb dX6_unlock_16 (by decide) ?_
      refine xx_check (E0 := eI) (vx_runS (As := [.int 1]) (rest := []) ⟨hx, hb, hml, hown, hts⟩ (c_X6_checkThere l hst D cA A true 1 (by decide)) (va_cwS 1 hts gX6_unlock_X6_checkThere rfl rfl rfl (by decide +kernel) ⟨Nat.le_of_ble_eq_true rfl, Nat.le_of_ble_eq_true rfl⟩) (xPXS hK tK.blind (fun U hU hW => hX.2.at hS (fun _ h => h) hU hW) trivial) rfl rfl hl.1 rfl (lv_room (Nat.le_of_ble_eq_true rfl)) dX6_unlock_20 ⟨Nat.le_of_ble_eq_true rfl, Nat.le_of_ble_eq_true rfl⟩) hS (fun b_5 ce q9 H1 z1 k1 hS1 g1 g2 g3 => ?_) (fun b_5 => ?_)
      · exact absurd b_5 (by decide)
      · have _b_5 := b_5
        obtain ⟨ip1, hip1, ep1⟩ := okN_of (n := nL) (v := p1) (by omega) (by have h9 := c_1; (try simp only [Bool.and_eq_true] at h9); simp [h9])
        subst ep1
        rcases (show p2 = -1 ∨ okS p2 = true from by have h9 := c_3; simpa [Bool.or_eq_true] using h9) with hv8 | hv8
        · subst hv8
          refine lv_iload_n hx hb dX6_unlock_23 rfl (lv_at hl 3 rfl) ?_
          refine xr_call (va_runS (As := [.int p3]) (rest := []) ⟨hx, hb, hml, hown, hts⟩ (c_X6_isOwner l D cA p3) (va_cwS 1 hts gX6_unlock_X6_isOwner rfl rfl rfl (by decide +kernel) ⟨Nat.le_of_ble_eq_true rfl, Nat.le_of_ble_eq_true rfl⟩) (xPS hK trivial) rfl rfl hl.1 rfl (lv_room (Nat.le_of_ble_eq_true rfl)) dX6_unlock_24 ⟨Nat.le_of_ble_eq_true rfl, Nat.le_of_ble_eq_true rfl⟩) ?_
          refine xx_check (E0 := eA) (vx_runS (As := [.int (bI (okO p3))]) (rest := []) ⟨hx, hb, hml, hown, hts⟩ (c_X6_checkArgument l hst D cA A (okO p3) (bI (okO p3)) rfl) (va_cwS 1 hts gX6_unlock_X6_checkArgument rfl rfl rfl (by decide +kernel) ⟨Nat.le_of_ble_eq_true rfl, Nat.le_of_ble_eq_true rfl⟩) (xPXS hK tK.blind (fun U hU hW => hX.2.at hS (fun _ h => h) hU hW) trivial) rfl rfl hl.1 rfl (lv_room (Nat.le_of_ble_eq_true rfl)) dX6_unlock_27 ⟨Nat.le_of_ble_eq_true rfl, Nat.le_of_ble_eq_true rfl⟩) hS (fun b_6 ce q9 H1 z1 k1 hS1 g1 g2 g3 => ?_) (fun b_6 => ?_)
          · have hk9 : kUn (mS f) nL (nI ip1) (-1) p3 = 2 := by simp [kUn, kLk, mS, c_1, c_3, b_6]
            exact vx_out (fun x hx => (ht x hx).elim) hlocks g1 g2 g3 (fun t ht9 _ => ⟨by rw [hk9]; decide, by rw [hk9] <;> rfl, by rw [ht9]; exact hCS0.same (fun q h1 _ => k1 q h1), hS1.F ht9⟩) hS1.2.2 (Nat.le_of_ble_eq_true rfl) (Nat.le_of_ble_eq_true rfl)
          · have _b_6 := b_6
            refine lv_aload_n hx hb dX6_unlock_30 rfl (lv_at hl 0 rfl) ?_
            refine x_get (v := .ref (nm 1 1)) hx hb hts h_X6 hown hK hT rfl 1 (by decide) (hts (.fieldLink RX6 16 "ConfigBeacon" "allLayers" "Ljava/util/ArrayList;") (by decide +kernel)) (fun _ h => h) rfl dX6_unlock_31 ?_
            refine lv_iload_n hx hb dX6_unlock_34 rfl (lv_at hl 1 rfl) ?_
            refine xr_call (va_runV (As := [.int (nI ip1)]) (rest := []) ⟨hx, hb, hml, hown, hts⟩ (c_Jx4a65c_get_915e3 l D cA (nm 1 1) mcL dL nL capL fL ip1 (by omega) hnL hcL (some (nm 3 ip1)) (hfL ip1 (by omega))) (cwV 1 hts gX6_unlock_Jx4a65c_get_915e3 rfl rfl rfl (by decide +kernel) ⟨Nat.le_of_ble_eq_true rfl, Nat.le_of_ble_eq_true rfl⟩) (xPV hK hOL rfl ⟨hOL, hQL (by omega)⟩) rfl rfl hl.1 rfl (lv_room (Nat.le_of_ble_eq_true rfl)) dX6_unlock_35 ⟨Nat.le_of_ble_eq_true rfl, Nat.le_of_ble_eq_true rfl⟩) ?_
            refine x_cast hx hb hown (hts (.classLink RX6 84 "ConfigBeacon$Layer") (by decide +kernel)) hK (hL ip1 (by omega)) rfl dX6_unlock_38 ?_
            refine lv_astore (lv' := [(4, .ref (nm 3 ip1)), (0, .ref (nm 0 0)), (1, .int (nI ip1)), (2, .int (-1)), (3, .int p3)]) hx hb dX6_unlock_41 hl (by decide) rfl (fun ls hl => ?_)
            refine lv_iload_n hx hb dX6_unlock_43 rfl (lv_at hl 3 rfl) ?_
            refine xr_call (va_runS (As := [.int (-1)]) (rest := []) ⟨hx, hb, hml, hown, hts⟩ (c_X4_lockOf l D cA (-1)) (va_cwS 1 hts gX6_unlock_X4_lockOf rfl rfl rfl (by decide +kernel) ⟨Nat.le_of_ble_eq_true rfl, Nat.le_of_ble_eq_true rfl⟩) (xPS hK trivial) rfl rfl hl.1 rfl (lv_room (Nat.le_of_ble_eq_true rfl)) dX6_unlock_44 ⟨Nat.le_of_ble_eq_true rfl, Nat.le_of_ble_eq_true rfl⟩) ?_
            refine xe_top (y := nI 16) rfl ?_
            refine lv_istore (lv' := [(5, .int (nI 16)), (4, .ref (nm 3 ip1)), (0, .ref (nm 0 0)), (1, .int (nI ip1)), (2, .int (-1)), (3, .int p3)]) hx hb dX6_unlock_47 hl (by decide) rfl (fun ls hl => ?_)
            refine lv_aload hx hb dX6_unlock_49 (lv_at hl 1 rfl) ?_
            refine x_getN (v := .ref (nm 4 ip1)) hx hb hts h_X4 hown hK (hL ip1 (by omega)) rfl 4 (by decide) (va_Nw.use rfl (hK.2.2.1 ("ConfigBeacon", 180, "ConfigBeacon$Layer", "holders", "[I") (by decide))) (fun _ h => h) rfl dX6_unlock_51 ?_
            refine lv_iload hx hb dX6_unlock_54 (lv_at hl 0 rfl) ?_
            refine x_iald hx hb hK (hHo ip1 (by omega)) 16 rfl (by omega) (by decide) dX6_unlock_56 ?_
            refine lv_iload_n hx hb dX6_unlock_57 rfl (lv_at hl 5 rfl) ?_
            refine lv_icmp_ne (tgt := 65) hx hb dX6_unlock_58 (by decide) (fun c_7 => ?_) (fun c_7 => ?_)
            · have Lc_7 : ¬ (f 11 (lkA (ix (nI ip1)) (-1)) = p3) := by rw [(lk_A (i := ip1) (by omega)), ← ho_A f ip1 16]; exact c_7
              refine lv_iconst (v := 0) hx hb dX6_unlock_65 (by decide) ?_
              refine xx_check (E0 := eS) (vx_runS (As := [.int 0]) (rest := []) ⟨hx, hb, hml, hown, hts⟩ (c_X6_checkState l hst D cA A false 0 (by decide)) (va_cwS 1 hts gX6_unlock_X6_checkState rfl rfl rfl (by decide +kernel) ⟨Nat.le_of_ble_eq_true rfl, Nat.le_of_ble_eq_true rfl⟩) (xPXS hK tK.blind (fun U hU hW => hX.2.at hS (fun _ h => h) hU hW) trivial) rfl rfl hl.1 rfl (lv_room (Nat.le_of_ble_eq_true rfl)) dX6_unlock_66 ⟨Nat.le_of_ble_eq_true rfl, Nat.le_of_ble_eq_true rfl⟩) hS (fun b_8 ce q9 H1 z1 k1 hS1 g1 g2 g3 => ?_) (fun b_8 => ?_)
              · have hk9 : kUn (mS f) nL (nI ip1) (-1) p3 = 3 := by simp [kUn, kLk, mS, c_1, c_3, b_6, c_7, Lc_7]
                exact vx_out (fun x hx => (ht x hx).elim) hlocks g1 g2 g3 (fun t ht9 _ => ⟨by rw [hk9]; decide, by rw [hk9] <;> rfl, by rw [ht9]; exact hCS0.same (fun q h1 _ => k1 q h1), hS1.F ht9⟩) hS1.2.2 (Nat.le_of_ble_eq_true rfl) (Nat.le_of_ble_eq_true rfl)
              · exact absurd b_8 (by decide)
            · have Lc_7 : f 11 (lkA (ix (nI ip1)) (-1)) = p3 := by rw [(lk_A (i := ip1) (by omega)), ← ho_A f ip1 16]; exact c_7
              refine lv_iconst (v := 1) hx hb dX6_unlock_61 (by decide) ?_
              refine lv_goto (tgt := 66) hx hb dX6_unlock_62 (by decide) ?_
              refine xx_check (E0 := eS) (vx_runS (As := [.int 1]) (rest := []) ⟨hx, hb, hml, hown, hts⟩ (c_X6_checkState l hst D cA A true 1 (by decide)) (va_cwS 1 hts gX6_unlock_X6_checkState rfl rfl rfl (by decide +kernel) ⟨Nat.le_of_ble_eq_true rfl, Nat.le_of_ble_eq_true rfl⟩) (xPXS hK tK.blind (fun U hU hW => hX.2.at hS (fun _ h => h) hU hW) trivial) rfl rfl hl.1 rfl (lv_room (Nat.le_of_ble_eq_true rfl)) dX6_unlock_66 ⟨Nat.le_of_ble_eq_true rfl, Nat.le_of_ble_eq_true rfl⟩) hS (fun b_9 ce q9 H1 z1 k1 hS1 g1 g2 g3 => ?_) (fun b_9 => ?_)
              · exact absurd b_9 (by decide)
              · have _b_9 := b_9
                refine lv_aload hx hb dX6_unlock_69 (lv_at hl 1 rfl) ?_
                refine x_getN (v := .ref (nm 4 ip1)) hx hb hts h_X4 hown hK (hL ip1 (by omega)) rfl 4 (by decide) (va_Nw.use rfl (hK.2.2.1 ("ConfigBeacon", 180, "ConfigBeacon$Layer", "holders", "[I") (by decide))) (fun _ h => h) rfl dX6_unlock_71 ?_
                refine lv_iload hx hb dX6_unlock_74 (lv_at hl 0 rfl) ?_
                refine lv_iconst (v := 0) hx hb dX6_unlock_76 (by decide) ?_
                have hA1 : A (nm 4 ip1) := hl9.1 _ (by rw [(hl9.2.2.2.2.2.2.2.2.1 ip1 (by omega)).2.1]; omega)
                refine x_iast hx hb hK (hHo ip1 (by omega)) hS hA1 16 rfl (by omega) (by decide) dX6_unlock_77 (fun H locs hW1 z9 q9 hS => ?_)
                obtain ⟨hV2, hIQ2⟩ := lk_CRv (k := 16) hV hl9 hIQ hip1 b2 b1 (by omega) (fun q _ h => q9 q h) hW1
                have hO9 := okO_pos b_6
                refine lv_aload_n hx hb dX6_unlock_78 rfl (lv_at hl 2 rfl) ?_
                refine lv_iload_n hx hb dX6_unlock_79 rfl (lv_at hl 5 rfl) ?_
                refine xr_call (va_runV (As := [.int p3]) (rest := []) ⟨hx, hb, hml, hown, hts⟩ (c_X6_countLocks l D cA lab nm rf (mup f 11 (hoA ip1 16) 0) nC nL nV (hi0.lk hip1 (by decide)) p3) (cwV 1 hts gX6_unlock_X6_countLocks rfl rfl rfl (by decide +kernel) ⟨Nat.le_of_ble_eq_true rfl, Nat.le_of_ble_eq_true rfl⟩) (xPV hK hV2.1 rfl hV2) rfl rfl hl.1 rfl (lv_room (Nat.le_of_ble_eq_true rfl)) dX6_unlock_80 ⟨Nat.le_of_ble_eq_true rfl, Nat.le_of_ble_eq_true rfl⟩) ?_
                refine vx_ret ?_
                exact xw_iret hx hb hr hlocks hS ⟨(by simp [kUn, kLk, mS, c_1, c_3, b_6, c_7, Lc_7]), (by show some (Value.int (nI (smF (fun j => cntF (fun k => decide (hoF (mup f 11 (hoA ip1 16) 0) j k = p3)) 17) nL))) = some (Value.int (nI (lksF (mup f 11 (lkA (ix (nI ip1)) (-1)) 0 11) p3))); rw [(lk_A (i := ip1) (by omega)), lks_sm (hi0.lk hip1 (by decide)) hO9.2]), (by show CS D cA A (nm 12 0) (nm 0 0) (mup f 11 (lkA (ix (nI ip1)) (-1)) 0) nC nL nV H; rw [(lk_A (i := ip1) (by omega))]; exact ⟨lab, nm, rf, hV2, hl9, hIQ2, rfl, rfl⟩)⟩ (Nat.le_of_ble_eq_true rfl) (Nat.le_of_ble_eq_true rfl) dX6_unlock_83
        · obtain ⟨ip2, hip2, ep2⟩ := okS_of hv8
          subst ep2
          refine lv_iload_n hx hb dX6_unlock_23 rfl (lv_at hl 3 rfl) ?_
          refine xr_call (va_runS (As := [.int p3]) (rest := []) ⟨hx, hb, hml, hown, hts⟩ (c_X6_isOwner l D cA p3) (va_cwS 1 hts gX6_unlock_X6_isOwner rfl rfl rfl (by decide +kernel) ⟨Nat.le_of_ble_eq_true rfl, Nat.le_of_ble_eq_true rfl⟩) (xPS hK trivial) rfl rfl hl.1 rfl (lv_room (Nat.le_of_ble_eq_true rfl)) dX6_unlock_24 ⟨Nat.le_of_ble_eq_true rfl, Nat.le_of_ble_eq_true rfl⟩) ?_
          refine xx_check (E0 := eA) (vx_runS (As := [.int (bI (okO p3))]) (rest := []) ⟨hx, hb, hml, hown, hts⟩ (c_X6_checkArgument l hst D cA A (okO p3) (bI (okO p3)) rfl) (va_cwS 1 hts gX6_unlock_X6_checkArgument rfl rfl rfl (by decide +kernel) ⟨Nat.le_of_ble_eq_true rfl, Nat.le_of_ble_eq_true rfl⟩) (xPXS hK tK.blind (fun U hU hW => hX.2.at hS (fun _ h => h) hU hW) trivial) rfl rfl hl.1 rfl (lv_room (Nat.le_of_ble_eq_true rfl)) dX6_unlock_27 ⟨Nat.le_of_ble_eq_true rfl, Nat.le_of_ble_eq_true rfl⟩) hS (fun b_10 ce q9 H1 z1 k1 hS1 g1 g2 g3 => ?_) (fun b_10 => ?_)
          · have hk9 : kUn (mS f) nL (nI ip1) (nI ip2) p3 = 2 := by simp [kUn, kLk, mS, c_1, c_3, b_10]
            exact vx_out (fun x hx => (ht x hx).elim) hlocks g1 g2 g3 (fun t ht9 _ => ⟨by rw [hk9]; decide, by rw [hk9] <;> rfl, by rw [ht9]; exact hCS0.same (fun q h1 _ => k1 q h1), hS1.F ht9⟩) hS1.2.2 (Nat.le_of_ble_eq_true rfl) (Nat.le_of_ble_eq_true rfl)
          · have _b_10 := b_10
            refine lv_aload_n hx hb dX6_unlock_30 rfl (lv_at hl 0 rfl) ?_
            refine x_get (v := .ref (nm 1 1)) hx hb hts h_X6 hown hK hT rfl 1 (by decide) (hts (.fieldLink RX6 16 "ConfigBeacon" "allLayers" "Ljava/util/ArrayList;") (by decide +kernel)) (fun _ h => h) rfl dX6_unlock_31 ?_
            refine lv_iload_n hx hb dX6_unlock_34 rfl (lv_at hl 1 rfl) ?_
            refine xr_call (va_runV (As := [.int (nI ip1)]) (rest := []) ⟨hx, hb, hml, hown, hts⟩ (c_Jx4a65c_get_915e3 l D cA (nm 1 1) mcL dL nL capL fL ip1 (by omega) hnL hcL (some (nm 3 ip1)) (hfL ip1 (by omega))) (cwV 1 hts gX6_unlock_Jx4a65c_get_915e3 rfl rfl rfl (by decide +kernel) ⟨Nat.le_of_ble_eq_true rfl, Nat.le_of_ble_eq_true rfl⟩) (xPV hK hOL rfl ⟨hOL, hQL (by omega)⟩) rfl rfl hl.1 rfl (lv_room (Nat.le_of_ble_eq_true rfl)) dX6_unlock_35 ⟨Nat.le_of_ble_eq_true rfl, Nat.le_of_ble_eq_true rfl⟩) ?_
            refine x_cast hx hb hown (hts (.classLink RX6 84 "ConfigBeacon$Layer") (by decide +kernel)) hK (hL ip1 (by omega)) rfl dX6_unlock_38 ?_
            refine lv_astore (lv' := [(4, .ref (nm 3 ip1)), (0, .ref (nm 0 0)), (1, .int (nI ip1)), (2, .int (nI ip2)), (3, .int p3)]) hx hb dX6_unlock_41 hl (by decide) rfl (fun ls hl => ?_)
            refine lv_iload_n hx hb dX6_unlock_43 rfl (lv_at hl 3 rfl) ?_
            refine xr_call (va_runS (As := [.int (nI ip2)]) (rest := []) ⟨hx, hb, hml, hown, hts⟩ (c_X4_lockOf l D cA (nI ip2)) (va_cwS 1 hts gX6_unlock_X4_lockOf rfl rfl rfl (by decide +kernel) ⟨Nat.le_of_ble_eq_true rfl, Nat.le_of_ble_eq_true rfl⟩) (xPS hK trivial) rfl rfl hl.1 rfl (lv_room (Nat.le_of_ble_eq_true rfl)) dX6_unlock_44 ⟨Nat.le_of_ble_eq_true rfl, Nat.le_of_ble_eq_true rfl⟩) ?_
            refine xe_top (y := nI ip2) (if_neg (nI_m1 (by omega))) ?_
            refine lv_istore (lv' := [(5, .int (nI ip2)), (4, .ref (nm 3 ip1)), (0, .ref (nm 0 0)), (1, .int (nI ip1)), (2, .int (nI ip2)), (3, .int p3)]) hx hb dX6_unlock_47 hl (by decide) rfl (fun ls hl => ?_)
            refine lv_aload hx hb dX6_unlock_49 (lv_at hl 1 rfl) ?_
            refine x_getN (v := .ref (nm 4 ip1)) hx hb hts h_X4 hown hK (hL ip1 (by omega)) rfl 4 (by decide) (va_Nw.use rfl (hK.2.2.1 ("ConfigBeacon", 180, "ConfigBeacon$Layer", "holders", "[I") (by decide))) (fun _ h => h) rfl dX6_unlock_51 ?_
            refine lv_iload hx hb dX6_unlock_54 (lv_at hl 0 rfl) ?_
            refine x_iald hx hb hK (hHo ip1 (by omega)) ip2 rfl (by omega) (by decide) dX6_unlock_56 ?_
            refine lv_iload_n hx hb dX6_unlock_57 rfl (lv_at hl 5 rfl) ?_
            refine lv_icmp_ne (tgt := 65) hx hb dX6_unlock_58 (by decide) (fun c_11 => ?_) (fun c_11 => ?_)
            · have Lc_11 : ¬ (f 11 (lkA (ix (nI ip1)) (nI ip2)) = p3) := by rw [(lk_B (i := ip1) (j := ip2) (by omega) (by omega)), ← ho_A f ip1 ip2]; exact c_11
              refine lv_iconst (v := 0) hx hb dX6_unlock_65 (by decide) ?_
              refine xx_check (E0 := eS) (vx_runS (As := [.int 0]) (rest := []) ⟨hx, hb, hml, hown, hts⟩ (c_X6_checkState l hst D cA A false 0 (by decide)) (va_cwS 1 hts gX6_unlock_X6_checkState rfl rfl rfl (by decide +kernel) ⟨Nat.le_of_ble_eq_true rfl, Nat.le_of_ble_eq_true rfl⟩) (xPXS hK tK.blind (fun U hU hW => hX.2.at hS (fun _ h => h) hU hW) trivial) rfl rfl hl.1 rfl (lv_room (Nat.le_of_ble_eq_true rfl)) dX6_unlock_66 ⟨Nat.le_of_ble_eq_true rfl, Nat.le_of_ble_eq_true rfl⟩) hS (fun b_12 ce q9 H1 z1 k1 hS1 g1 g2 g3 => ?_) (fun b_12 => ?_)
              · have hk9 : kUn (mS f) nL (nI ip1) (nI ip2) p3 = 3 := by simp [kUn, kLk, mS, c_1, c_3, b_10, c_11, Lc_11]
                exact vx_out (fun x hx => (ht x hx).elim) hlocks g1 g2 g3 (fun t ht9 _ => ⟨by rw [hk9]; decide, by rw [hk9] <;> rfl, by rw [ht9]; exact hCS0.same (fun q h1 _ => k1 q h1), hS1.F ht9⟩) hS1.2.2 (Nat.le_of_ble_eq_true rfl) (Nat.le_of_ble_eq_true rfl)
              · exact absurd b_12 (by decide)
            · have Lc_11 : f 11 (lkA (ix (nI ip1)) (nI ip2)) = p3 := by rw [(lk_B (i := ip1) (j := ip2) (by omega) (by omega)), ← ho_A f ip1 ip2]; exact c_11
              refine lv_iconst (v := 1) hx hb dX6_unlock_61 (by decide) ?_
              refine lv_goto (tgt := 66) hx hb dX6_unlock_62 (by decide) ?_
              refine xx_check (E0 := eS) (vx_runS (As := [.int 1]) (rest := []) ⟨hx, hb, hml, hown, hts⟩ (c_X6_checkState l hst D cA A true 1 (by decide)) (va_cwS 1 hts gX6_unlock_X6_checkState rfl rfl rfl (by decide +kernel) ⟨Nat.le_of_ble_eq_true rfl, Nat.le_of_ble_eq_true rfl⟩) (xPXS hK tK.blind (fun U hU hW => hX.2.at hS (fun _ h => h) hU hW) trivial) rfl rfl hl.1 rfl (lv_room (Nat.le_of_ble_eq_true rfl)) dX6_unlock_66 ⟨Nat.le_of_ble_eq_true rfl, Nat.le_of_ble_eq_true rfl⟩) hS (fun b_13 ce q9 H1 z1 k1 hS1 g1 g2 g3 => ?_) (fun b_13 => ?_)
              · exact absurd b_13 (by decide)
              · have _b_13 := b_13
                refine lv_aload hx hb dX6_unlock_69 (lv_at hl 1 rfl) ?_
                refine x_getN (v := .ref (nm 4 ip1)) hx hb hts h_X4 hown hK (hL ip1 (by omega)) rfl 4 (by decide) (va_Nw.use rfl (hK.2.2.1 ("ConfigBeacon", 180, "ConfigBeacon$Layer", "holders", "[I") (by decide))) (fun _ h => h) rfl dX6_unlock_71 ?_
                refine lv_iload hx hb dX6_unlock_74 (lv_at hl 0 rfl) ?_
                refine lv_iconst (v := 0) hx hb dX6_unlock_76 (by decide) ?_
                have hA1 : A (nm 4 ip1) := hl9.1 _ (by rw [(hl9.2.2.2.2.2.2.2.2.1 ip1 (by omega)).2.1]; omega)
                refine x_iast hx hb hK (hHo ip1 (by omega)) hS hA1 ip2 rfl (by omega) (by decide) dX6_unlock_77 (fun H locs hW1 z9 q9 hS => ?_)
                obtain ⟨hV2, hIQ2⟩ := lk_CRv (k := ip2) hV hl9 hIQ hip1 b2 b1 (by omega) (fun q _ h => q9 q h) hW1
                have hO9 := okO_pos b_10
                refine lv_aload_n hx hb dX6_unlock_78 rfl (lv_at hl 2 rfl) ?_
                refine lv_iload_n hx hb dX6_unlock_79 rfl (lv_at hl 5 rfl) ?_
                refine xr_call (va_runV (As := [.int p3]) (rest := []) ⟨hx, hb, hml, hown, hts⟩ (c_X6_countLocks l D cA lab nm rf (mup f 11 (hoA ip1 ip2) 0) nC nL nV (hi0.lk hip1 (by decide)) p3) (cwV 1 hts gX6_unlock_X6_countLocks rfl rfl rfl (by decide +kernel) ⟨Nat.le_of_ble_eq_true rfl, Nat.le_of_ble_eq_true rfl⟩) (xPV hK hV2.1 rfl hV2) rfl rfl hl.1 rfl (lv_room (Nat.le_of_ble_eq_true rfl)) dX6_unlock_80 ⟨Nat.le_of_ble_eq_true rfl, Nat.le_of_ble_eq_true rfl⟩) ?_
                refine vx_ret ?_
                exact xw_iret hx hb hr hlocks hS ⟨(by simp [kUn, kLk, mS, c_1, c_3, b_10, c_11, Lc_11]), (by show some (Value.int (nI (smF (fun j => cntF (fun k => decide (hoF (mup f 11 (hoA ip1 ip2) 0) j k = p3)) 17) nL))) = some (Value.int (nI (lksF (mup f 11 (lkA (ix (nI ip1)) (nI ip2)) 0 11) p3))); rw [(lk_B (i := ip1) (j := ip2) (by omega) (by omega)), lks_sm (hi0.lk hip1 (by decide)) hO9.2]), (by show CS D cA A (nm 12 0) (nm 0 0) (mup f 11 (lkA (ix (nI ip1)) (nI ip2)) 0) nC nL nV H; rw [(lk_B (i := ip1) (j := ip2) (by omega) (by omega))]; exact ⟨lab, nm, rf, hV2, hl9, hIQ2, rfl, rfl⟩)⟩ (Nat.le_of_ble_eq_true rfl) (Nat.le_of_ble_eq_true rfl) dX6_unlock_83
set_option maxHeartbeats 4000000 in
set_option maxRecDepth 100000 in
theorem c_X6_abort (l : Launch) (hst : l.stackTraces = false) (D : va_G) (cA : Nat → ClassId) (lab : Nat → Nat) (nm : Nat → Nat → Nat) (rf : Nat → Nat → Option Nat) (f : Nat → Nat → Int32) (nC nL nV : Nat) (hi : CRi f nC nL nV) (A : Nat → Prop) (hl9 : CRl A lab nm rf nC nL) (H9 : Heap) (p1 : Int32) (p2 : Int32) (p3 : Int32) : vx_Met l yX6_abort wsX6_abort (rmK 41 3 18) (xPX D cA (fun U => pK A (nm 12 0) U) [.ref (nm 0 0), .int p1, .int p2, .int p3] (fun H => H = H9 ∧ CRv D cA lab nm rf f nC nL nV H ∧ IQ0 D cA nm H)) (xW (pJ (wrF (mS f) nL p1 p2 true p3 true) (some (.int (f 10 (cl p1 p2)))) (CS D cA A (nm 12 0) (nm 0 0) ((sa (mS f) 10 (cl p1 p2) (-1)).2.1) nC nL nV)) A) (xT (wrF (mS f) nL p1 p2 true p3 true) (fun k => (if k = 1 then eI else (if k = 2 then eA else eS))) (CS D cA A (nm 12 0) (nm 0 0) f nC nL nV) A) 3 18 A := by
  refine vx_ofW (cc := cX6_abort) (maxL := 6) (ret := (some .int)) (by decide) rfl ?_
  intro p e s m args below meth c s₁ B hml ht hv
  obtain ⟨rfl, ⟨hK, hX⟩, hI⟩ := hv
  have hx := B.exec
  have hb := B.bytes
  have hr := B.returns
  have hts := atoms_spec (ws := wsX6_abort) B.pre
  have hown : s.vm.findClass RX6 = some m.cls := findClass_of_methodNamed B.named
  have hlocks := B.notSynchronized
  have hl := lv_entry ([.ref (nm 0 0), .int p1, .int p2, .int p3]) (n := 6) (Nat.le_of_ble_eq_true rfl)
  rw [lg_entry_eq]
  generalize (lg_sl ([.ref (nm 0 0), .int p1, .int p2, .int p3]) ++ List.replicate (6 - (lg_sl ([.ref (nm 0 0), .int p1, .int p2, .int p3])).length) Slot.unset).toArray = ls at hl ⊢
  have hl : lv_has ls 6 [(0, .ref (nm 0 0)), (1, .int p1), (2, .int p2), (3, .int p3)] := hl
  have h_X4 : ∀ w ∈ wsX40, w ∈ wsX6_abort := fun _ h => List.mem_cons_of_mem _ (List.mem_append_left _ (List.mem_append_left _ (List.mem_append_left _ (List.mem_append_left _ (List.mem_append_left _ (List.mem_append_right _ h))))))
  have h_X5 : ∀ w ∈ wsX50, w ∈ wsX6_abort := fun _ h => List.mem_cons_of_mem _ (List.mem_append_left _ (List.mem_append_left _ (List.mem_append_left _ (List.mem_append_left _ (List.mem_append_right _ h)))))
  have h_X6 : ∀ w ∈ wsX60, w ∈ wsX6_abort := fun _ h => List.mem_cons_of_mem _ (List.mem_append_left _ (List.mem_append_left _ (List.mem_append_left _ (List.mem_append_left _ (List.mem_append_left _ (List.mem_append_left _ (List.mem_append_right _ h)))))))
  have h_Jx4a65c : ∀ w ∈ wsJx4a65c0, w ∈ wsX6_abort := fun _ h => List.mem_cons_of_mem _ (List.mem_append_left _ (List.mem_append_left _ (List.mem_append_left _ (List.mem_append_right _ h))))
  obtain ⟨hH9, hI, hIQ⟩ := hI
  subst hH9
  have hV := hI
  have hi0 := hi
  obtain ⟨hT, ⟨mcC, dC, capC, fC, hOC, hQC, hnC, hcC, hfC, -⟩, ⟨mcL, dL, capL, fL, hOL, hQL, hnL, hcL, hfL, -⟩, ⟨mcV, dV, capV, fV, hOV, hQV, hnV, hcV, hfV, -⟩, hC, hL, hHo, hRo, hCh, hRl, hEn⟩ := hI
  obtain ⟨b1, b2, b3, iSel, iGd, iCur, iZero, iLk, iLkA, iLkB⟩ := hi
  have hS : va_S A s.heap s.heap [] := va_S.rf
  have hCS0 : CS D cA A (nm 12 0) (nm 0 0) f nC nL nV s.heap := ⟨lab, nm, rf, hV, hl9, hIQ, rfl, rfl⟩
  refine lv_aload_n hx hb dX6_abort_0 rfl (lv_at hl 0 rfl) ?_
  refine lv_iload_n hx hb dX6_abort_1 rfl (lv_at hl 1 rfl) ?_
  refine lv_iload_n hx hb dX6_abort_2 rfl (lv_at hl 2 rfl) ?_
  refine xr_call (va_runV (As := [.int p1, .int p2]) (rest := []) ⟨hx, hb, hml, hown, hts⟩ (c_X6_isCell l D cA lab nm rf f nC nL nV (⟨b1, b2, b3, iSel, iGd, iCur, iZero, iLk, iLkA, iLkB⟩) p1 p2) (cwV 2 hts gX6_abort_X6_isCell rfl rfl rfl (by decide +kernel) ⟨Nat.le_of_ble_eq_true rfl, Nat.le_of_ble_eq_true rfl⟩) (xPV hK hT rfl hV) rfl rfl hl.1 rfl (lv_room (Nat.le_of_ble_eq_true rfl)) dX6_abort_3 ⟨Nat.le_of_ble_eq_true rfl, Nat.le_of_ble_eq_true rfl⟩) ?_
  refine xx_check (E0 := eI) (vx_runS (As := [.int (bI (okN nL p1 && okS p2))]) (rest := []) ⟨hx, hb, hml, hown, hts⟩ (c_X6_checkThere l hst D cA A (okN nL p1 && okS p2) (bI (okN nL p1 && okS p2)) rfl) (va_cwS 1 hts gX6_abort_X6_checkThere rfl rfl rfl (by decide +kernel) ⟨Nat.le_of_ble_eq_true rfl, Nat.le_of_ble_eq_true rfl⟩) (xPXS hK tK.blind (fun U hU hW => hX.2.at hS (fun _ h => h) hU hW) trivial) rfl rfl hl.1 rfl (lv_room (Nat.le_of_ble_eq_true rfl)) dX6_abort_6 ⟨Nat.le_of_ble_eq_true rfl, Nat.le_of_ble_eq_true rfl⟩) hS (fun b_1 ce q9 H1 z1 k1 hS1 g1 g2 g3 => ?_) (fun b_1 => ?_)
  · have hk9 : wrF (mS f) nL p1 p2 true p3 true = 1 := by simp [wrF, mS, b_1]
    exact vx_out (fun x hx => (ht x hx).elim) hlocks g1 g2 g3 (fun t ht9 _ => ⟨by rw [hk9]; decide, by rw [hk9] <;> rfl, by rw [ht9]; exact hCS0.same (fun q h1 _ => k1 q h1), hS1.F ht9⟩) hS1.2.2 (Nat.le_of_ble_eq_true rfl) (Nat.le_of_ble_eq_true rfl)
  · have _b_1 := b_1
    obtain ⟨ip1, hip1, ep1⟩ := okN_of (n := nL) (v := p1) (by omega) (by have h9 := b_1; (try simp only [Bool.and_eq_true] at h9); simp [h9])
    subst ep1
    obtain ⟨ip2, hip2, ep2⟩ := okS_of (v := p2) (by have h9 := b_1; (try simp only [Bool.and_eq_true] at h9); simp [h9])
    subst ep2
    refine lv_iload_n hx hb dX6_abort_9 rfl (lv_at hl 3 rfl) ?_
    refine xr_call (va_runS (As := [.int p3]) (rest := []) ⟨hx, hb, hml, hown, hts⟩ (c_X6_isOwner l D cA p3) (va_cwS 1 hts gX6_abort_X6_isOwner rfl rfl rfl (by decide +kernel) ⟨Nat.le_of_ble_eq_true rfl, Nat.le_of_ble_eq_true rfl⟩) (xPS hK trivial) rfl rfl hl.1 rfl (lv_room (Nat.le_of_ble_eq_true rfl)) dX6_abort_10 ⟨Nat.le_of_ble_eq_true rfl, Nat.le_of_ble_eq_true rfl⟩) ?_
    refine xx_check (E0 := eA) (vx_runS (As := [.int (bI (okO p3))]) (rest := []) ⟨hx, hb, hml, hown, hts⟩ (c_X6_checkArgument l hst D cA A (okO p3) (bI (okO p3)) rfl) (va_cwS 1 hts gX6_abort_X6_checkArgument rfl rfl rfl (by decide +kernel) ⟨Nat.le_of_ble_eq_true rfl, Nat.le_of_ble_eq_true rfl⟩) (xPXS hK tK.blind (fun U hU hW => hX.2.at hS (fun _ h => h) hU hW) trivial) rfl rfl hl.1 rfl (lv_room (Nat.le_of_ble_eq_true rfl)) dX6_abort_13 ⟨Nat.le_of_ble_eq_true rfl, Nat.le_of_ble_eq_true rfl⟩) hS (fun b_2 ce q9 H1 z1 k1 hS1 g1 g2 g3 => ?_) (fun b_2 => ?_)
    · have hk9 : wrF (mS f) nL (nI ip1) (nI ip2) true p3 true = 2 := by simp [wrF, mS, b_1, b_2]
      exact vx_out (fun x hx => (ht x hx).elim) hlocks g1 g2 g3 (fun t ht9 _ => ⟨by rw [hk9]; decide, by rw [hk9] <;> rfl, by rw [ht9]; exact hCS0.same (fun q h1 _ => k1 q h1), hS1.F ht9⟩) hS1.2.2 (Nat.le_of_ble_eq_true rfl) (Nat.le_of_ble_eq_true rfl)
    · have _b_2 := b_2
      refine lv_aload_n hx hb dX6_abort_16 rfl (lv_at hl 0 rfl) ?_
      refine x_get (v := .ref (nm 1 1)) hx hb hts h_X6 hown hK hT rfl 1 (by decide) (hts (.fieldLink RX6 16 "ConfigBeacon" "allLayers" "Ljava/util/ArrayList;") (by decide +kernel)) (fun _ h => h) rfl dX6_abort_17 ?_
      refine lv_iload_n hx hb dX6_abort_20 rfl (lv_at hl 1 rfl) ?_
      refine xr_call (va_runV (As := [.int (nI ip1)]) (rest := []) ⟨hx, hb, hml, hown, hts⟩ (c_Jx4a65c_get_915e3 l D cA (nm 1 1) mcL dL nL capL fL ip1 (by omega) hnL hcL (some (nm 3 ip1)) (hfL ip1 (by omega))) (cwV 1 hts gX6_abort_Jx4a65c_get_915e3 rfl rfl rfl (by decide +kernel) ⟨Nat.le_of_ble_eq_true rfl, Nat.le_of_ble_eq_true rfl⟩) (xPV hK hOL rfl ⟨hOL, hQL (by omega)⟩) rfl rfl hl.1 rfl (lv_room (Nat.le_of_ble_eq_true rfl)) dX6_abort_21 ⟨Nat.le_of_ble_eq_true rfl, Nat.le_of_ble_eq_true rfl⟩) ?_
      refine x_cast hx hb hown (hts (.classLink RX6 84 "ConfigBeacon$Layer") (by decide +kernel)) hK (hL ip1 (by omega)) rfl dX6_abort_24 ?_
      refine lv_astore (lv' := [(4, .ref (nm 3 ip1)), (0, .ref (nm 0 0)), (1, .int (nI ip1)), (2, .int (nI ip2)), (3, .int p3)]) hx hb dX6_abort_27 hl (by decide) rfl (fun ls hl => ?_)
      refine lv_aload hx hb dX6_abort_29 (lv_at hl 0 rfl) ?_
      refine x_getN (v := .ref (nm 5 ip1)) hx hb hts h_X4 hown hK (hL ip1 (by omega)) rfl 5 (by decide) (va_Nw.use rfl (hK.2.2.1 ("ConfigBeacon", 141, "ConfigBeacon$Layer", "rollouts", "[LConfigBeacon$Rollout;") (by decide))) (fun _ h => h) rfl dX6_abort_31 ?_
      refine lv_iload_n hx hb dX6_abort_34 rfl (lv_at hl 3 rfl) ?_
      rcases hRl ip1 ip2 (by omega) (by omega) with ⟨e1, e2⟩ | ⟨e1, e2, hR5, hR6⟩
      · refine x_aald hx hb hK 3 rfl (hRo ip1 (by omega)) ip2 rfl (by omega) (by decide) (v := none) e1 dX6_abort_35 ?_
        refine lv_astoreN (lv' := [(5, .null), (4, .ref (nm 3 ip1)), (0, .ref (nm 0 0)), (1, .int (nI ip1)), (2, .int (nI ip2)), (3, .int p3)]) hx hb dX6_abort_36 hl (by decide) rfl (fun ls hl => ?_)
        refine lv_aload hx hb dX6_abort_38 (lv_at hl 1 rfl) ?_
        refine lv_iload_n hx hb dX6_abort_40 rfl (lv_at hl 4 rfl) ?_
        refine lv_iload_n hx hb dX6_abort_41 rfl (lv_at hl 5 rfl) ?_
        refine xr_call (va_runV (As := [.int (nI ip2), .int p3]) (rest := []) ⟨hx, hb, hml, hown, hts⟩ (c_X4_isHeldAgainst l D cA (nm 3 ip1) ip1 (f 4 ip1) (f 5 ip1) (f 3 ip1) (nm 4 ip1) (nm 5 ip1) (nm 6 ip1) (hoF f ip1) ip2 (by omega) p3) (cwV 2 hts gX6_abort_X4_isHeldAgainst rfl rfl rfl (by decide +kernel) ⟨Nat.le_of_ble_eq_true rfl, Nat.le_of_ble_eq_true rfl⟩) (xPV hK (hL ip1 (by omega)) rfl ⟨hL ip1 (by omega), hHo ip1 (by omega)⟩) rfl rfl hl.1 rfl (lv_room (Nat.le_of_ble_eq_true rfl)) dX6_abort_42 ⟨Nat.le_of_ble_eq_true rfl, Nat.le_of_ble_eq_true rfl⟩) ?_
        refine xb_ne (tgt := 53) hx hb dX6_abort_45 (by decide) (fun c_3 => ?_) (fun c_3 => ?_)
        · have Lc_3 : lckF (f 11) (16 * ip1 + ip2) p3 = true := by rw [← lck_he iLk (by omega)]; exact c_3
          have hk9 : wrF (mS f) nL (nI ip1) (nI ip2) true p3 true = 3 := by simp [wrF, mS, cl_nI (show ip1 < 8 by omega) (show ip2 < 16 by omega), e2, b_1, b_2, Lc_3]
          obtain ⟨hXu, hXn, ⟨tx1, hx1⟩, ⟨tx2, hx2⟩, ⟨tx3, hx3⟩, ⟨tx4, hx4⟩, ⟨tx5, hx5⟩, ⟨tx6, hx6⟩, hXd, hXs⟩ := hX.2
          exact vx_throwS hx hb hst hown (cls := "java/lang/IllegalStateException") (names := ["java/lang/RuntimeException", "java/lang/Exception"]) (by decide +kernel) (by decide +kernel) (hts (.classLink RX6 159 "java/lang/IllegalStateException") (by decide +kernel)) (hts (.initialized "java/lang/IllegalStateException") (by decide +kernel)) hx6 (vx_hat (B := [.declares (Bundle.initS "java/lang/RuntimeException"), .declares (Bundle.initS "java/lang/Exception"), .declares (Bundle.initS "java/lang/Throwable"), .castable "java/lang/IllegalStateException" "java/lang/IllegalStateException"]) (fun w h => hts w ((fun _ h => List.mem_cons_of_mem _ (List.mem_append_left _ (List.mem_append_left _ (List.mem_append_right _ h)))) w h)) (by decide +kernel) (vx_c (va_Nw.use rfl (hXd "java/lang/RuntimeException" (by decide))) (vx_c (va_Nw.use rfl (hXd "java/lang/Exception" (by decide))) (vx_c (va_Nw.use rfl (hXd "java/lang/Throwable" (by decide))) (vx_c (va_Nw.use rfl (hXs "java/lang/IllegalStateException" (by decide))) vx_n))))) (by decide +kernel) hXu hXn hS (hl.1.trans hml.symm) dX6_abort_53 dX6_abort_56 dX6_abort_57 dX6_abort_59 dX6_abort_62 (fun x hx => (ht x hx).elim) (by decide) (by decide) (Nat.le_of_ble_eq_true rfl) (Nat.le_of_ble_eq_true rfl) hlocks (fun t hv hz hk => ⟨by rw [hk9]; decide, by rw [hk9] <;> rfl, hCS0.same (fun q h1 _ => hk q h1), hz, fun q h1 _ => hk q h1⟩) (fun z h => nomatch h) (Nat.le_of_ble_eq_true rfl) (Nat.le_of_ble_eq_true rfl)
        · have Lc_3 : lckF (f 11) (16 * ip1 + ip2) p3 = false := by rw [← lck_he iLk (by omega)]; exact c_3
          refine lv_aloadN hx hb dX6_abort_48 (lv_at hl 0 rfl) ?_
          refine lv_ifnonnullN hx hb dX6_abort_50 ?_
          have hk9 : wrF (mS f) nL (nI ip1) (nI ip2) true p3 true = 3 := by simp [wrF, mS, cl_nI (show ip1 < 8 by omega) (show ip2 < 16 by omega), e2, b_1, b_2, Lc_3]
          obtain ⟨hXu, hXn, ⟨tx1, hx1⟩, ⟨tx2, hx2⟩, ⟨tx3, hx3⟩, ⟨tx4, hx4⟩, ⟨tx5, hx5⟩, ⟨tx6, hx6⟩, hXd, hXs⟩ := hX.2
          exact vx_throwS hx hb hst hown (cls := "java/lang/IllegalStateException") (names := ["java/lang/RuntimeException", "java/lang/Exception"]) (by decide +kernel) (by decide +kernel) (hts (.classLink RX6 159 "java/lang/IllegalStateException") (by decide +kernel)) (hts (.initialized "java/lang/IllegalStateException") (by decide +kernel)) hx6 (vx_hat (B := [.declares (Bundle.initS "java/lang/RuntimeException"), .declares (Bundle.initS "java/lang/Exception"), .declares (Bundle.initS "java/lang/Throwable"), .castable "java/lang/IllegalStateException" "java/lang/IllegalStateException"]) (fun w h => hts w ((fun _ h => List.mem_cons_of_mem _ (List.mem_append_left _ (List.mem_append_left _ (List.mem_append_right _ h)))) w h)) (by decide +kernel) (vx_c (va_Nw.use rfl (hXd "java/lang/RuntimeException" (by decide))) (vx_c (va_Nw.use rfl (hXd "java/lang/Exception" (by decide))) (vx_c (va_Nw.use rfl (hXd "java/lang/Throwable" (by decide))) (vx_c (va_Nw.use rfl (hXs "java/lang/IllegalStateException" (by decide))) vx_n))))) (by decide +kernel) hXu hXn hS (hl.1.trans hml.symm) dX6_abort_53 dX6_abort_56 dX6_abort_57 dX6_abort_59 dX6_abort_62 (fun x hx => (ht x hx).elim) (by decide) (by decide) (Nat.le_of_ble_eq_true rfl) (Nat.le_of_ble_eq_true rfl) hlocks (fun t hv hz hk => ⟨by rw [hk9]; decide, by rw [hk9] <;> rfl, hCS0.same (fun q h1 _ => hk q h1), hz, fun q h1 _ => hk q h1⟩) (fun z h => nomatch h) (Nat.le_of_ble_eq_true rfl) (Nat.le_of_ble_eq_true rfl)
      · refine x_aald hx hb hK 3 rfl (hRo ip1 (by omega)) ip2 rfl (by omega) (by decide) (v := some (nm 10 (16 * ip1 + ip2))) e1 dX6_abort_35 ?_
        refine lv_astore (lv' := [(5, .ref (nm 10 (16 * ip1 + ip2))), (4, .ref (nm 3 ip1)), (0, .ref (nm 0 0)), (1, .int (nI ip1)), (2, .int (nI ip2)), (3, .int p3)]) hx hb dX6_abort_36 hl (by decide) rfl (fun ls hl => ?_)
        refine lv_aload hx hb dX6_abort_38 (lv_at hl 1 rfl) ?_
        refine lv_iload_n hx hb dX6_abort_40 rfl (lv_at hl 4 rfl) ?_
        refine lv_iload_n hx hb dX6_abort_41 rfl (lv_at hl 5 rfl) ?_
        refine xr_call (va_runV (As := [.int (nI ip2), .int p3]) (rest := []) ⟨hx, hb, hml, hown, hts⟩ (c_X4_isHeldAgainst l D cA (nm 3 ip1) ip1 (f 4 ip1) (f 5 ip1) (f 3 ip1) (nm 4 ip1) (nm 5 ip1) (nm 6 ip1) (hoF f ip1) ip2 (by omega) p3) (cwV 2 hts gX6_abort_X4_isHeldAgainst rfl rfl rfl (by decide +kernel) ⟨Nat.le_of_ble_eq_true rfl, Nat.le_of_ble_eq_true rfl⟩) (xPV hK (hL ip1 (by omega)) rfl ⟨hL ip1 (by omega), hHo ip1 (by omega)⟩) rfl rfl hl.1 rfl (lv_room (Nat.le_of_ble_eq_true rfl)) dX6_abort_42 ⟨Nat.le_of_ble_eq_true rfl, Nat.le_of_ble_eq_true rfl⟩) ?_
        refine xb_ne (tgt := 53) hx hb dX6_abort_45 (by decide) (fun c_4 => ?_) (fun c_4 => ?_)
        · have Lc_4 : lckF (f 11) (16 * ip1 + ip2) p3 = true := by rw [← lck_he iLk (by omega)]; exact c_4
          have hk9 : wrF (mS f) nL (nI ip1) (nI ip2) true p3 true = 3 := by simp [wrF, mS, cl_nI (show ip1 < 8 by omega) (show ip2 < 16 by omega), e2, b_1, b_2, Lc_4]
          obtain ⟨hXu, hXn, ⟨tx1, hx1⟩, ⟨tx2, hx2⟩, ⟨tx3, hx3⟩, ⟨tx4, hx4⟩, ⟨tx5, hx5⟩, ⟨tx6, hx6⟩, hXd, hXs⟩ := hX.2
          exact vx_throwS hx hb hst hown (cls := "java/lang/IllegalStateException") (names := ["java/lang/RuntimeException", "java/lang/Exception"]) (by decide +kernel) (by decide +kernel) (hts (.classLink RX6 159 "java/lang/IllegalStateException") (by decide +kernel)) (hts (.initialized "java/lang/IllegalStateException") (by decide +kernel)) hx6 (vx_hat (B := [.declares (Bundle.initS "java/lang/RuntimeException"), .declares (Bundle.initS "java/lang/Exception"), .declares (Bundle.initS "java/lang/Throwable"), .castable "java/lang/IllegalStateException" "java/lang/IllegalStateException"]) (fun w h => hts w ((fun _ h => List.mem_cons_of_mem _ (List.mem_append_left _ (List.mem_append_left _ (List.mem_append_right _ h)))) w h)) (by decide +kernel) (vx_c (va_Nw.use rfl (hXd "java/lang/RuntimeException" (by decide))) (vx_c (va_Nw.use rfl (hXd "java/lang/Exception" (by decide))) (vx_c (va_Nw.use rfl (hXd "java/lang/Throwable" (by decide))) (vx_c (va_Nw.use rfl (hXs "java/lang/IllegalStateException" (by decide))) vx_n))))) (by decide +kernel) hXu hXn hS (hl.1.trans hml.symm) dX6_abort_53 dX6_abort_56 dX6_abort_57 dX6_abort_59 dX6_abort_62 (fun x hx => (ht x hx).elim) (by decide) (by decide) (Nat.le_of_ble_eq_true rfl) (Nat.le_of_ble_eq_true rfl) hlocks (fun t hv hz hk => ⟨by rw [hk9]; decide, by rw [hk9] <;> rfl, hCS0.same (fun q h1 _ => hk q h1), hz, fun q h1 _ => hk q h1⟩) (fun z h => nomatch h) (Nat.le_of_ble_eq_true rfl) (Nat.le_of_ble_eq_true rfl)
        · have Lc_4 : lckF (f 11) (16 * ip1 + ip2) p3 = false := by rw [← lck_he iLk (by omega)]; exact c_4
          refine lv_aload hx hb dX6_abort_48 (lv_at hl 0 rfl) ?_
          refine lv_ifnonnull (tgt := 63) hx hb dX6_abort_50 (by decide) ?_
          refine lv_aload hx hb dX6_abort_63 (lv_at hl 1 rfl) ?_
          refine x_getN (v := .ref (nm 5 ip1)) hx hb hts h_X4 hown hK (hL ip1 (by omega)) rfl 5 (by decide) (va_Nw.use rfl (hK.2.2.1 ("ConfigBeacon", 141, "ConfigBeacon$Layer", "rollouts", "[LConfigBeacon$Rollout;") (by decide))) (fun _ h => h) rfl dX6_abort_65 ?_
          refine lv_iload_n hx hb dX6_abort_68 rfl (lv_at hl 4 rfl) ?_
          refine lv_null hx hb dX6_abort_69 ?_
          have hA1 : A (nm 5 ip1) := hl9.1 _ (by rw [(hl9.2.2.2.2.2.2.2.2.1 ip1 (by omega)).2.2.1]; omega)
          refine x_aastN hx hb hK 3 rfl (hRo ip1 (by omega)) hS hA1 ip2 rfl (by omega) (by decide) dX6_abort_70 (fun H locs hW1 z9 q9 hS => ?_)
          obtain ⟨hC1, hC2, hC3⟩ := ab_CS hV hl9 hIQ hip1 b2 b1 hip2 (fun q _ h => q9 q h) hW1
          have hR5 := va_at.kept hR5 (q9 _ (fun e => by have h1 := (hl9.2.2.2.2.2.2.2.2.2 ip1 ip2 hip1 hip2 (by rw [e1]; simp)).1; rw [show nm 10 (16 * ip1 + ip2) = nm 5 ip1 from e, (hl9.2.2.2.2.2.2.2.2.1 ip1 (by omega)).2.2.1] at h1; omega))
          refine lv_aload hx hb dX6_abort_71 (lv_at hl 0 rfl) ?_
          refine x_getN (v := .int (f 10 (16 * ip1 + ip2))) hx hb hts h_X5 hown hK hR5 rfl 1 (by decide) (va_Nw.use rfl (hK.2.2.1 ("ConfigBeacon", 156, "ConfigBeacon$Rollout", "share", "I") (by decide))) (fun _ h => h) rfl dX6_abort_73 ?_
          refine vx_ret ?_
          exact xw_iret hx hb hr hlocks hS ⟨(by simp [wrF, mS, cl_nI (show ip1 < 8 by omega) (show ip2 < 16 by omega), e2, b_1, b_2, Lc_4]), congrArg (fun z => some (Value.int (f 10 z))) (cl_nI (by omega) (by omega)).symm, (by show CS D cA A (nm 12 0) (nm 0 0) (mup f 10 (cl (nI ip1) (nI ip2)) (-1)) nC nL nV H; rw [cl_nI (by omega) (by omega)]; exact ⟨lab, nm, _, hC1, hC2, hC3, rfl, rfl⟩)⟩ (Nat.le_of_ble_eq_true rfl) (Nat.le_of_ble_eq_true rfl) dX6_abort_76
