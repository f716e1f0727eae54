set_option maxHeartbeats 4000000 in
set_option maxRecDepth 100000 in
theorem c_X6_rollback (l : Launch) (hst : l.stackTraces = false) (D : va_G) (cA : Nat → ClassId) (lab : Nat → Nat) (nm : Nat → Nat → Nat) (rf : Nat → Nat → Option Nat) (f : Nat → Nat → Int32) (nC nL nV : Nat) (hi : CRi f nC nL nV) (A : Nat → Prop) (hl9 : CRl A lab nm rf nC nL) (H9 : Heap) (p1 : Int32) (p2 : Int32) (hAn : ∀ q, H9.size ≤ q → A q) : vx_Met l yX6_rollback wsX6_rollback (rmK 41 5 1020) (xPX D cA (fun U => pK A (nm 12 0) U) [.ref (nm 0 0), .int p1, .int p2] (fun H => H = H9 ∧ CRv D cA lab nm rf f nC nL nV H ∧ IQ0 D cA nm H)) (xW (pJ (kRo (mS f) nV p1 p2) (some (.int (nI (cntF (difF f (ix p1)) 128)))) (CS D cA A (nm 12 0) (nm 0 0) (if cntF (difF f (ix p1)) 128 = 0 then f else (rollS (mS f) nV (ix p1)).2.1) nC nL (if cntF (difF f (ix p1)) 128 = 0 then nV else nV + 1))) A) (xT (kRo (mS f) nV p1 p2) (fun k => (if k = 1 then eI else (if k = 2 then eA else eS))) (CS D cA A (nm 12 0) (nm 0 0) f nC nL nV) A) 5 1020 A := by
  refine vx_ofW (cc := cX6_rollback) (maxL := 4) (ret := (some .int)) (by decide) rfl ?_
  intro p e s m args below meth c s₁ B hml ht hv
  obtain ⟨rfl, ⟨hK, hX⟩, hI⟩ := hv
  have hx := B.exec
  have hb := B.bytes
  have hr := B.returns
  have hts := atoms_spec (ws := wsX6_rollback) B.pre
  have hown : s.vm.findClass RX6 = some m.cls := findClass_of_methodNamed B.named
  have hlocks := B.notSynchronized
  have hl := lv_entry ([.ref (nm 0 0), .int p1, .int p2]) (n := 4) (Nat.le_of_ble_eq_true rfl)
  rw [lg_entry_eq]
  generalize (lg_sl ([.ref (nm 0 0), .int p1, .int p2]) ++ List.replicate (4 - (lg_sl ([.ref (nm 0 0), .int p1, .int p2])).length) Slot.unset).toArray = ls at hl ⊢
  have hl : lv_has ls 4 [(0, .ref (nm 0 0)), (1, .int p1), (2, .int p2)] := hl
  have h_X1 : ∀ w ∈ wsX10, w ∈ wsX6_rollback := fun _ h => List.mem_cons_of_mem _ (List.mem_append_left _ (List.mem_append_left _ (List.mem_append_left _ (List.mem_append_left _ (List.mem_append_left _ (List.mem_append_right _ h))))))
  have h_X2 : ∀ w ∈ wsX20, w ∈ wsX6_rollback := fun _ h => List.mem_cons_of_mem _ (List.mem_append_left _ (List.mem_append_left _ (List.mem_append_left _ (List.mem_append_left _ (List.mem_append_right _ h)))))
  have h_X4 : ∀ w ∈ wsX40, w ∈ wsX6_rollback := fun _ h => List.mem_cons_of_mem _ (List.mem_append_left _ (List.mem_append_left _ (List.mem_append_left _ (List.mem_append_right _ h))))
  have h_X6 : ∀ w ∈ wsX60, w ∈ wsX6_rollback := fun _ h => List.mem_cons_of_mem _ (List.mem_append_left _ (List.mem_append_left _ (List.mem_append_left _ (List.mem_append_left _ (List.mem_append_left _ (List.mem_append_left _ (List.mem_append_left _ (List.mem_append_right _ h))))))))
  have h_Jx4a65c : ∀ w ∈ wsJx4a65c0, w ∈ wsX6_rollback := fun _ h => List.mem_cons_of_mem _ (List.mem_append_left _ (List.mem_append_left _ (List.mem_append_left _ (List.mem_append_left _ (List.mem_append_left _ (List.mem_append_left _ (List.mem_append_right _ h)))))))
  obtain ⟨hH9, hI, hIQ⟩ := hI
  subst hH9
  have hV := hI
  have hi0 := hi
  obtain ⟨hT, ⟨mcC, dC, capC, fC, hOC, hQC, hnC, hcC, hfC, -⟩, ⟨mcL, dL, capL, fL, hOL, hQL, hnL, hcL, hfL, -⟩, ⟨mcV, dV, capV, fV, hOV, hQV, hnV, hcV, hfV, -⟩, hC, hL, hHo, hRo, hCh, hRl, hEn⟩ := hI
  obtain ⟨b1, b2, b3, iSel, iGd, iCur, iZero, iLk, iLkA, iLkB⟩ := hi
  have hS : va_S A s.heap s.heap [] := va_S.rf
  have hCS0 : CS D cA A (nm 12 0) (nm 0 0) f nC nL nV s.heap := ⟨lab, nm, rf, hV, hl9, hIQ, rfl, rfl⟩
  refine lv_aload_n hx hb dX6_rollback_0 rfl (lv_at hl 0 rfl) ?_
  refine lv_iload_n hx hb dX6_rollback_1 rfl (lv_at hl 1 rfl) ?_
  refine xr_call (va_runV (As := [.int p1]) (rest := []) ⟨hx, hb, hml, hown, hts⟩ (c_X6_isVersion l D cA lab nm rf f nC nL nV (⟨b1, b2, b3, iSel, iGd, iCur, iZero, iLk, iLkA, iLkB⟩) p1) (cwV 1 hts gX6_rollback_X6_isVersion rfl rfl rfl (by decide +kernel) ⟨Nat.le_of_ble_eq_true rfl, Nat.le_of_ble_eq_true rfl⟩) (xPV hK hT rfl hV) rfl rfl hl.1 rfl (lv_room (Nat.le_of_ble_eq_true rfl)) dX6_rollback_2 ⟨Nat.le_of_ble_eq_true rfl, Nat.le_of_ble_eq_true rfl⟩) ?_
  refine xx_check (E0 := eI) (vx_runS (As := [.int (bI (okN (nV + 1) p1))]) (rest := []) ⟨hx, hb, hml, hown, hts⟩ (c_X6_checkThere l hst D cA A (okN (nV + 1) p1) (bI (okN (nV + 1) p1)) rfl) (va_cwS 1 hts gX6_rollback_X6_checkThere rfl rfl rfl (by decide +kernel) ⟨Nat.le_of_ble_eq_true rfl, Nat.le_of_ble_eq_true rfl⟩) (xPXS hK tK.blind (fun U hU hW => hX.2.at hS (fun _ h => h) hU hW) trivial) rfl rfl hl.1 rfl (lv_room (Nat.le_of_ble_eq_true rfl)) dX6_rollback_5 ⟨Nat.le_of_ble_eq_true rfl, Nat.le_of_ble_eq_true rfl⟩) hS (fun b_1 ce q9 H1 z1 k1 hS1 g1 g2 g3 => ?_) (fun b_1 => ?_)
  · have hk9 : kRo (mS f) nV p1 p2 = 1 := by simp [kRo, b_1]
    exact vx_out (fun x hx => (ht x hx).elim) hlocks g1 g2 g3 (fun t ht9 _ => ⟨by rw [hk9]; decide, by rw [hk9] <;> rfl, by rw [ht9]; exact hCS0.same (fun q h1 _ => k1 q h1), hS1.F ht9⟩) hS1.2.2 (Nat.le_of_ble_eq_true rfl) (Nat.le_of_ble_eq_true rfl)
  · have _b_1 := b_1
    obtain ⟨ip1, hip1, ep1⟩ := okN_of (n := (nV + 1)) (v := p1) (by omega) (by have h9 := b_1; (try simp only [Bool.and_eq_true] at h9); simp [h9])
    subst ep1
    refine lv_iload_n hx hb dX6_rollback_8 rfl (lv_at hl 2 rfl) ?_
    refine xr_call (va_runS (As := [.int p2]) (rest := []) ⟨hx, hb, hml, hown, hts⟩ (c_X6_isOwner l D cA p2) (va_cwS 1 hts gX6_rollback_X6_isOwner rfl rfl rfl (by decide +kernel) ⟨Nat.le_of_ble_eq_true rfl, Nat.le_of_ble_eq_true rfl⟩) (xPS hK trivial) rfl rfl hl.1 rfl (lv_room (Nat.le_of_ble_eq_true rfl)) dX6_rollback_9 ⟨Nat.le_of_ble_eq_true rfl, Nat.le_of_ble_eq_true rfl⟩) ?_
    refine xx_check (E0 := eA) (vx_runS (As := [.int (bI (okO p2))]) (rest := []) ⟨hx, hb, hml, hown, hts⟩ (c_X6_checkArgument l hst D cA A (okO p2) (bI (okO p2)) rfl) (va_cwS 1 hts gX6_rollback_X6_checkArgument rfl rfl rfl (by decide +kernel) ⟨Nat.le_of_ble_eq_true rfl, Nat.le_of_ble_eq_true rfl⟩) (xPXS hK tK.blind (fun U hU hW => hX.2.at hS (fun _ h => h) hU hW) trivial) rfl rfl hl.1 rfl (lv_room (Nat.le_of_ble_eq_true rfl)) dX6_rollback_12 ⟨Nat.le_of_ble_eq_true rfl, Nat.le_of_ble_eq_true rfl⟩) hS (fun b_2 ce q9 H1 z1 k1 hS1 g1 g2 g3 => ?_) (fun b_2 => ?_)
    · have hk9 : kRo (mS f) nV (nI ip1) p2 = 2 := by simp [kRo, b_1, b_2]
      exact vx_out (fun x hx => (ht x hx).elim) hlocks g1 g2 g3 (fun t ht9 _ => ⟨by rw [hk9]; decide, by rw [hk9] <;> rfl, by rw [ht9]; exact hCS0.same (fun q h1 _ => k1 q h1), hS1.F ht9⟩) hS1.2.2 (Nat.le_of_ble_eq_true rfl) (Nat.le_of_ble_eq_true rfl)
    · have _b_2 := b_2
      refine lv_aload_n hx hb dX6_rollback_15 rfl (lv_at hl 0 rfl) ?_
      refine x_get (v := .ref (nm 1 2)) hx hb hts h_X6 hown hK hT rfl 2 (by decide) (hts (.fieldLink RX6 19 "ConfigBeacon" "versions" "Ljava/util/ArrayList;") (by decide +kernel)) (fun _ h => h) rfl dX6_rollback_16 ?_
      refine lv_iload_n hx hb dX6_rollback_19 rfl (lv_at hl 1 rfl) ?_
      refine xr_call (va_runV (As := [.int (nI ip1)]) (rest := []) ⟨hx, hb, hml, hown, hts⟩ (c_Jx4a65c_get_915e3 l D cA (nm 1 2) mcV dV (nV + 1) capV fV ip1 (by omega) hnV hcV (some (nm 7 ip1)) (hfV ip1 (by omega))) (cwV 1 hts gX6_rollback_Jx4a65c_get_915e3 rfl rfl rfl (by decide +kernel) ⟨Nat.le_of_ble_eq_true rfl, Nat.le_of_ble_eq_true rfl⟩) (xPV hK hOV rfl ⟨hOV, hQV (by omega)⟩) rfl rfl hl.1 rfl (lv_room (Nat.le_of_ble_eq_true rfl)) dX6_rollback_20 ⟨Nat.le_of_ble_eq_true rfl, Nat.le_of_ble_eq_true rfl⟩) ?_
      refine x_cast hx hb hown (hts (.classLink RX6 29 "ConfigBeacon$Entries") (by decide +kernel)) hK (hEn ip1 (by omega)).choose_spec.choose_spec.1 rfl dX6_rollback_23 ?_
      refine lv_astore_n (lv' := [(3, .ref (nm 7 ip1)), (0, .ref (nm 0 0)), (1, .int (nI ip1)), (2, .int p2)]) hx hb dX6_rollback_26 rfl hl (by decide) rfl (fun ls hl => ?_)
      refine lv_aload_n hx hb dX6_rollback_27 rfl (lv_at hl 1 rfl) ?_
      refine lv_aload_n hx hb dX6_rollback_28 rfl (lv_at hl 0 rfl) ?_
      refine lv_iload_n hx hb dX6_rollback_29 rfl (lv_at hl 3 rfl) ?_
      have hWE : ENT D cA lab (nm 7 ip1) (fun k => f 12 (128 * ip1 + k)) s.heap := hEn ip1 (by omega)
      refine xr_call (va_runV (As := [.ref (nm 7 ip1), .int p2]) (rest := []) ⟨hx, hb, hml, hown, hts⟩ (c_X6_canTurnInto l D cA lab nm rf f nC nL nV hi0 (nm 7 ip1) (fun k => f 12 (128 * ip1 + k)) p2) (cwV 2 hts gX6_rollback_X6_canTurnInto rfl rfl rfl (by decide +kernel) ⟨Nat.le_of_ble_eq_true rfl, Nat.le_of_ble_eq_true rfl⟩) (xPV hK hT rfl ⟨hV, hWE⟩) rfl rfl hl.1 rfl (lv_room (Nat.le_of_ble_eq_true rfl)) dX6_rollback_30 ⟨Nat.le_of_ble_eq_true rfl, Nat.le_of_ble_eq_true rfl⟩) ?_
      refine xx_check (E0 := eS) (vx_runS (As := [.int (bI (!anyF (barC f (fun k => f 12 (128 * ip1 + k)) p2) (16 * nL)))]) (rest := []) ⟨hx, hb, hml, hown, hts⟩ (c_X6_checkState l hst D cA A (!anyF (barC f (fun k => f 12 (128 * ip1 + k)) p2) (16 * nL)) (bI (!anyF (barC f (fun k => f 12 (128 * ip1 + k)) p2) (16 * nL))) rfl) (va_cwS 1 hts gX6_rollback_X6_checkState rfl rfl rfl (by decide +kernel) ⟨Nat.le_of_ble_eq_true rfl, Nat.le_of_ble_eq_true rfl⟩) (xPXS hK tK.blind (fun U hU hW => hX.2.at hS (fun _ h => h) hU hW) trivial) rfl rfl hl.1 rfl (lv_room (Nat.le_of_ble_eq_true rfl)) dX6_rollback_33 ⟨Nat.le_of_ble_eq_true rfl, Nat.le_of_ble_eq_true rfl⟩) hS (fun b_3 ce q9 H1 z1 k1 hS1 g1 g2 g3 => ?_) (fun b_3 => ?_)
      · have hk9 : kRo (mS f) nV (nI ip1) p2 = 3 := by unfold kRo; rw [b_1, b_2, ix_nI (show ip1 < 65536 by omega)]; show (if true = true then (if true = true then (if anyF (barR f ip1 p2) 128 = true then (3 : Int32) else 0) else 2) else 1) = _; rw [roll_bar hi0 (by omega)]; have h9 := b_3; revert h9; cases anyF (barC f (fun k => f 12 (128 * ip1 + k)) p2) (16 * nL) <;> decide
        exact vx_out (fun x hx => (ht x hx).elim) hlocks g1 g2 g3 (fun t ht9 _ => ⟨by rw [hk9]; decide, by rw [hk9] <;> rfl, by rw [ht9]; exact hCS0.same (fun q h1 _ => k1 q h1), hS1.F ht9⟩) hS1.2.2 (Nat.le_of_ble_eq_true rfl) (Nat.le_of_ble_eq_true rfl)
      · have _b_3 := b_3
        refine lv_aload_n hx hb dX6_rollback_36 rfl (lv_at hl 1 rfl) ?_
        refine lv_aload_n hx hb dX6_rollback_37 rfl (lv_at hl 0 rfl) ?_
        refine xw_call (va_runV (As := [.ref (nm 7 ip1)]) (rest := []) ⟨hx, hb, hml, hown, hts⟩ (c_X6_turnInto l D cA lab nm rf f nC nL nV hi0 A hl9 s.heap hAn (nm 7 ip1) (fun k => f 12 (128 * ip1 + k))) (cwV 1 hts gX6_rollback_X6_turnInto rfl rfl rfl (by decide +kernel) ⟨Nat.le_of_ble_eq_true rfl, Nat.le_of_ble_eq_true rfl⟩) (xPXV hK zK.blind (fun U hU hW => hX.1.at hS (fun _ h => h) hU hW) hT rfl ⟨rfl, hV, hIQ, hWE⟩) rfl rfl hl.1 rfl (lv_room (Nat.le_of_ble_eq_true rfl)) dX6_rollback_38 ⟨Nat.le_of_ble_eq_true rfl, Nat.le_of_ble_eq_true rfl⟩) hS (fun _ _ h => h) (fun _ h => h) (fun r H locs hJ z9 q9 hS => ?_)
        obtain ⟨rfl, hJ⟩ := hJ
        refine W.eq (g2 := F0 m 41 ls [.int (nI (cntF (dfF f (fun k => f 12 (128 * ip1 + k))) (16 * nL)))]) rfl ?_
        refine vx_ret ?_
        exact xw_iret hx hb hr hlocks hS ⟨(by unfold kRo; rw [b_1, b_2, ix_nI (show ip1 < 65536 by omega)]; show (if true = true then (if true = true then (if anyF (barR f ip1 p2) 128 = true then (3 : Int32) else 0) else 2) else 1) = _; rw [roll_bar hi0 (by omega)]; have h9 := b_3; revert h9; cases anyF (barC f (fun k => f 12 (128 * ip1 + k)) p2) (16 * nL) <;> decide), (by rw [ix_nI (show ip1 < 65536 by omega), roll_cnt hi0 (by omega)]), (by rw [ix_nI (show ip1 < 65536 by omega), roll_cnt hi0 (by omega)]; by_cases hc : cntF (dfF f (fun k => f 12 (128 * ip1 + k))) (16 * nL) = 0 <;> simp only [hc, if_true, if_false] at hJ ⊢ <;> first | exact hJ | (rw [← roll_eq hi0 (by omega)]; exact hJ))⟩ (Nat.le_of_ble_eq_true rfl) (Nat.le_of_ble_eq_true rfl) dX6_rollback_41
set_option maxHeartbeats 4000000 in
set_option maxRecDepth 100000 in
theorem c_X6_advance (l : Launch) (hst : l.stackTraces = false) (D : va_G) (cA : Nat → ClassId) (lab : Nat → Nat) (nm : Nat → Nat → Nat) (rf : Nat → Nat → Option Nat) (f : Nat → Nat → Int32) (nC nL nV : Nat) (hi : CRi f nC nL nV) (A : Nat → Prop) (hl9 : CRl A lab nm rf nC nL) (H9 : Heap) (p1 : Int32) (p2 : Int32) (p3 : Int32) (p4 : Int32) (hAn : ∀ q, H9.size ≤ q → A q) : vx_Met l yX6_advance wsX6_advance (rmK 41 8 1160) (xPX D cA (fun U => pK A (nm 12 0) U) [.ref (nm 0 0), .int p1, .int p2, .int p3, .int p4] (fun H => H = H9 ∧ CRv D cA lab nm rf f nC nL nV H ∧ IQ0 D cA nm H)) (xW (pJ (kAd (mS f) nL p1 p2 p3 p4) (some (.int (nI (adV (mS f) nC (ix p1) (cl p1 p2) p3)))) (CS D cA A (nm 12 0) (nm 0 0) ((adS (mS f) nV (cl p1 p2) p3).2.1) nC nL (adN f nV (cl p1 p2) p3))) A) (xT (kAd (mS f) nL p1 p2 p3 p4) (fun k => (if k = 1 then eI else (if k = 2 then eA else eS))) (CS D cA A (nm 12 0) (nm 0 0) f nC nL nV) A) 8 1160 A := by
  refine vx_ofW (cc := cX6_advance) (maxL := 8) (ret := (some .int)) (by decide) rfl ?_
  intro p e s m args below meth c s₁ B hml ht hv
  obtain ⟨rfl, ⟨hK, hX⟩, hI⟩ := hv
  have hx := B.exec
  have hb := B.bytes
  have hr := B.returns
  have hts := atoms_spec (ws := wsX6_advance) B.pre
  have hown : s.vm.findClass RX6 = some m.cls := findClass_of_methodNamed B.named
  have hlocks := B.notSynchronized
  have hl := lv_entry ([.ref (nm 0 0), .int p1, .int p2, .int p3, .int p4]) (n := 8) (Nat.le_of_ble_eq_true rfl)
  rw [lg_entry_eq]
  generalize (lg_sl ([.ref (nm 0 0), .int p1, .int p2, .int p3, .int p4]) ++ List.replicate (8 - (lg_sl ([.ref (nm 0 0), .int p1, .int p2, .int p3, .int p4])).length) Slot.unset).toArray = ls at hl ⊢
  have hl : lv_has ls 8 [(0, .ref (nm 0 0)), (1, .int p1), (2, .int p2), (3, .int p3), (4, .int p4)] := hl
  have h_X0 : ∀ w ∈ wsX00, w ∈ wsX6_advance := fun _ h => List.mem_cons_of_mem _ (List.mem_append_left _ (List.mem_append_left _ (List.mem_append_left _ (List.mem_append_left _ (List.mem_append_left _ (List.mem_append_right _ h))))))
  have h_X1 : ∀ w ∈ wsX10, w ∈ wsX6_advance := fun _ h => List.mem_cons_of_mem _ (List.mem_append_left _ (List.mem_append_left _ (List.mem_append_left _ (List.mem_append_left _ (List.mem_append_right _ h)))))
  have h_X2 : ∀ w ∈ wsX20, w ∈ wsX6_advance := fun _ h => List.mem_cons_of_mem _ (List.mem_append_left _ (List.mem_append_left _ (List.mem_append_left _ (List.mem_append_right _ h))))
  have h_X4 : ∀ w ∈ wsX40, w ∈ wsX6_advance := fun _ h => List.mem_cons_of_mem _ (List.mem_append_left _ (List.mem_append_left _ (List.mem_append_left _ (List.mem_append_left _ (List.mem_append_left _ (List.mem_append_left _ (List.mem_append_left _ (List.mem_append_left _ (List.mem_append_right _ h)))))))))
  have h_X5 : ∀ w ∈ wsX50, w ∈ wsX6_advance := fun _ h => List.mem_cons_of_mem _ (List.mem_append_left _ (List.mem_append_left _ (List.mem_append_left _ (List.mem_append_left _ (List.mem_append_left _ (List.mem_append_left _ (List.mem_append_left _ (List.mem_append_right _ h))))))))
  have h_X6 : ∀ w ∈ wsX60, w ∈ wsX6_advance := fun _ h => List.mem_cons_of_mem _ (List.mem_append_left _ (List.mem_append_left _ (List.mem_append_left _ (List.mem_append_left _ (List.mem_append_left _ (List.mem_append_left _ (List.mem_append_left _ (List.mem_append_left _ (List.mem_append_left _ (List.mem_append_right _ h))))))))))
  have h_Jx4a65c : ∀ w ∈ wsJx4a65c0, w ∈ wsX6_advance := fun _ h => List.mem_cons_of_mem _ (List.mem_append_left _ (List.mem_append_left _ (List.mem_append_left _ (List.mem_append_left _ (List.mem_append_left _ (List.mem_append_left _ (List.mem_append_right _ h)))))))
  obtain ⟨hH9, hI, hIQ⟩ := hI
  subst hH9
  have hV := hI
  have hi0 := hi
  obtain ⟨hT, ⟨mcC, dC, capC, fC, hOC, hQC, hnC, hcC, hfC, -⟩, ⟨mcL, dL, capL, fL, hOL, hQL, hnL, hcL, hfL, -⟩, ⟨mcV, dV, capV, fV, hOV, hQV, hnV, hcV, hfV, -⟩, hC, hL, hHo, hRo, hCh, hRl, hEn⟩ := hI
  obtain ⟨b1, b2, b3, iSel, iGd, iCur, iZero, iLk, iLkA, iLkB⟩ := hi
  have hS : va_S A s.heap s.heap [] := va_S.rf
  have hCS0 : CS D cA A (nm 12 0) (nm 0 0) f nC nL nV s.heap := ⟨lab, nm, rf, hV, hl9, hIQ, rfl, rfl⟩
  refine lv_aload_n hx hb dX6_advance_0 rfl (lv_at hl 0 rfl) ?_
  refine lv_iload_n hx hb dX6_advance_1 rfl (lv_at hl 1 rfl) ?_
  refine lv_iload_n hx hb dX6_advance_2 rfl (lv_at hl 2 rfl) ?_
  refine xr_call (va_runV (As := [.int p1, .int p2]) (rest := []) ⟨hx, hb, hml, hown, hts⟩ (c_X6_isCell l D cA lab nm rf f nC nL nV (⟨b1, b2, b3, iSel, iGd, iCur, iZero, iLk, iLkA, iLkB⟩) p1 p2) (cwV 2 hts gX6_advance_X6_isCell rfl rfl rfl (by decide +kernel) ⟨Nat.le_of_ble_eq_true rfl, Nat.le_of_ble_eq_true rfl⟩) (xPV hK hT rfl hV) rfl rfl hl.1 rfl (lv_room (Nat.le_of_ble_eq_true rfl)) dX6_advance_3 ⟨Nat.le_of_ble_eq_true rfl, Nat.le_of_ble_eq_true rfl⟩) ?_
  refine xx_check (E0 := eI) (vx_runS (As := [.int (bI (okN nL p1 && okS p2))]) (rest := []) ⟨hx, hb, hml, hown, hts⟩ (c_X6_checkThere l hst D cA A (okN nL p1 && okS p2) (bI (okN nL p1 && okS p2)) rfl) (va_cwS 1 hts gX6_advance_X6_checkThere rfl rfl rfl (by decide +kernel) ⟨Nat.le_of_ble_eq_true rfl, Nat.le_of_ble_eq_true rfl⟩) (xPXS hK tK.blind (fun U hU hW => hX.2.at hS (fun _ h => h) hU hW) trivial) rfl rfl hl.1 rfl (lv_room (Nat.le_of_ble_eq_true rfl)) dX6_advance_6 ⟨Nat.le_of_ble_eq_true rfl, Nat.le_of_ble_eq_true rfl⟩) hS (fun b_1 ce q9 H1 z1 k1 hS1 g1 g2 g3 => ?_) (fun b_1 => ?_)
  · have hk9 : kAd (mS f) nL p1 p2 p3 p4 = 1 := by simp [kAd, wrF, mS, b_1]
    exact vx_out (fun x hx => (ht x hx).elim) hlocks g1 g2 g3 (fun t ht9 _ => ⟨by rw [hk9]; decide, by rw [hk9] <;> rfl, by rw [ht9]; exact hCS0.same (fun q h1 _ => k1 q h1), hS1.F ht9⟩) hS1.2.2 (Nat.le_of_ble_eq_true rfl) (Nat.le_of_ble_eq_true rfl)
  · have _b_1 := b_1
    obtain ⟨ip1, hip1, ep1⟩ := okN_of (n := nL) (v := p1) (by omega) (by have h9 := b_1; (try simp only [Bool.and_eq_true] at h9); simp [h9])
    subst ep1
    obtain ⟨ip2, hip2, ep2⟩ := okS_of (v := p2) (by have h9 := b_1; (try simp only [Bool.and_eq_true] at h9); simp [h9])
    subst ep2
    refine lv_iload_n hx hb dX6_advance_9 rfl (lv_at hl 3 rfl) ?_
    refine xr_call (va_runS (As := [.int p3]) (rest := []) ⟨hx, hb, hml, hown, hts⟩ (c_X6_isNewShare l D cA p3) (va_cwS 1 hts gX6_advance_X6_isNewShare rfl rfl rfl (by decide +kernel) ⟨Nat.le_of_ble_eq_true rfl, Nat.le_of_ble_eq_true rfl⟩) (xPS hK trivial) rfl rfl hl.1 rfl (lv_room (Nat.le_of_ble_eq_true rfl)) dX6_advance_10 ⟨Nat.le_of_ble_eq_true rfl, Nat.le_of_ble_eq_true rfl⟩) ?_
    refine xb_eq (tgt := 28) hx hb dX6_advance_13 (by decide) (fun c_2 => ?_) (fun c_2 => ?_)
    · refine lv_iconst (v := 0) hx hb dX6_advance_28 (by decide) ?_
      refine xx_check (E0 := eA) (vx_runS (As := [.int 0]) (rest := []) ⟨hx, hb, hml, hown, hts⟩ (c_X6_checkArgument l hst D cA A false 0 (by decide)) (va_cwS 1 hts gX6_advance_X6_checkArgument rfl rfl rfl (by decide +kernel) ⟨Nat.le_of_ble_eq_true rfl, Nat.le_of_ble_eq_true rfl⟩) (xPXS hK tK.blind (fun U hU hW => hX.2.at hS (fun _ h => h) hU hW) trivial) rfl rfl hl.1 rfl (lv_room (Nat.le_of_ble_eq_true rfl)) dX6_advance_29 ⟨Nat.le_of_ble_eq_true rfl, Nat.le_of_ble_eq_true rfl⟩) hS (fun b_3 ce q9 H1 z1 k1 hS1 g1 g2 g3 => ?_) (fun b_3 => ?_)
      · have hk9 : kAd (mS f) nL (nI ip1) (nI ip2) p3 p4 = 2 := by simp [kAd, wrF, mS, b_1, c_2]
        exact vx_out (fun x hx => (ht x hx).elim) hlocks g1 g2 g3 (fun t ht9 _ => ⟨by rw [hk9]; decide, by rw [hk9] <;> rfl, by rw [ht9]; exact hCS0.same (fun q h1 _ => k1 q h1), hS1.F ht9⟩) hS1.2.2 (Nat.le_of_ble_eq_true rfl) (Nat.le_of_ble_eq_true rfl)
      · exact absurd b_3 (by decide)
    · refine lv_iload hx hb dX6_advance_16 (lv_at hl 4 rfl) ?_
      refine xr_call (va_runS (As := [.int p4]) (rest := []) ⟨hx, hb, hml, hown, hts⟩ (c_X6_isOwner l D cA p4) (va_cwS 1 hts gX6_advance_X6_isOwner rfl rfl rfl (by decide +kernel) ⟨Nat.le_of_ble_eq_true rfl, Nat.le_of_ble_eq_true rfl⟩) (xPS hK trivial) rfl rfl hl.1 rfl (lv_room (Nat.le_of_ble_eq_true rfl)) dX6_advance_18 ⟨Nat.le_of_ble_eq_true rfl, Nat.le_of_ble_eq_true rfl⟩) ?_
      refine xb_eq (tgt := 28) hx hb dX6_advance_21 (by decide) (fun c_4 => ?_) (fun c_4 => ?_)
      · refine lv_iconst (v := 0) hx hb dX6_advance_28 (by decide) ?_
        refine xx_check (E0 := eA) (vx_runS (As := [.int 0]) (rest := []) ⟨hx, hb, hml, hown, hts⟩ (c_X6_checkArgument l hst D cA A false 0 (by decide)) (va_cwS 1 hts gX6_advance_X6_checkArgument rfl rfl rfl (by decide +kernel) ⟨Nat.le_of_ble_eq_true rfl, Nat.le_of_ble_eq_true rfl⟩) (xPXS hK tK.blind (fun U hU hW => hX.2.at hS (fun _ h => h) hU hW) trivial) rfl rfl hl.1 rfl (lv_room (Nat.le_of_ble_eq_true rfl)) dX6_advance_29 ⟨Nat.le_of_ble_eq_true rfl, Nat.le_of_ble_eq_true rfl⟩) hS (fun b_5 ce q9 H1 z1 k1 hS1 g1 g2 g3 => ?_) (fun b_5 => ?_)
        · have hk9 : kAd (mS f) nL (nI ip1) (nI ip2) p3 p4 = 2 := by simp [kAd, wrF, mS, b_1, c_2, c_4]
          exact vx_out (fun x hx => (ht x hx).elim) hlocks g1 g2 g3 (fun t ht9 _ => ⟨by rw [hk9]; decide, by rw [hk9] <;> rfl, by rw [ht9]; exact hCS0.same (fun q h1 _ => k1 q h1), hS1.F ht9⟩) hS1.2.2 (Nat.le_of_ble_eq_true rfl) (Nat.le_of_ble_eq_true rfl)
        · exact absurd b_5 (by decide)
      · refine lv_iconst (v := 1) hx hb dX6_advance_24 (by decide) ?_
        refine lv_goto (tgt := 29) hx hb dX6_advance_25 (by decide) ?_
        refine xx_check (E0 := eA) (vx_runS (As := [.int 1]) (rest := []) ⟨hx, hb, hml, hown, hts⟩ (c_X6_checkArgument l hst D cA A true 1 (by decide)) (va_cwS 1 hts gX6_advance_X6_checkArgument rfl rfl rfl (by decide +kernel) ⟨Nat.le_of_ble_eq_true rfl, Nat.le_of_ble_eq_true rfl⟩) (xPXS hK tK.blind (fun U hU hW => hX.2.at hS (fun _ h => h) hU hW) trivial) rfl rfl hl.1 rfl (lv_room (Nat.le_of_ble_eq_true rfl)) dX6_advance_29 ⟨Nat.le_of_ble_eq_true rfl, Nat.le_of_ble_eq_true rfl⟩) hS (fun b_6 ce q9 H1 z1 k1 hS1 g1 g2 g3 => ?_) (fun b_6 => ?_)
        · exact absurd b_6 (by decide)
        · have _b_6 := b_6
          refine lv_aload_n hx hb dX6_advance_32 rfl (lv_at hl 0 rfl) ?_
          refine x_get (v := .ref (nm 1 1)) hx hb hts h_X6 hown hK hT rfl 1 (by decide) (hts (.fieldLink RX6 16 "ConfigBeacon" "allLayers" "Ljava/util/ArrayList;") (by decide +kernel)) (fun _ h => h) rfl dX6_advance_33 ?_
          refine lv_iload_n hx hb dX6_advance_36 rfl (lv_at hl 1 rfl) ?_
          refine xr_call (va_runV (As := [.int (nI ip1)]) (rest := []) ⟨hx, hb, hml, hown, hts⟩ (c_Jx4a65c_get_915e3 l D cA (nm 1 1) mcL dL nL capL fL ip1 (by omega) hnL hcL (some (nm 3 ip1)) (hfL ip1 (by omega))) (cwV 1 hts gX6_advance_Jx4a65c_get_915e3 rfl rfl rfl (by decide +kernel) ⟨Nat.le_of_ble_eq_true rfl, Nat.le_of_ble_eq_true rfl⟩) (xPV hK hOL rfl ⟨hOL, hQL (by omega)⟩) rfl rfl hl.1 rfl (lv_room (Nat.le_of_ble_eq_true rfl)) dX6_advance_37 ⟨Nat.le_of_ble_eq_true rfl, Nat.le_of_ble_eq_true rfl⟩) ?_
          refine x_cast hx hb hown (hts (.classLink RX6 84 "ConfigBeacon$Layer") (by decide +kernel)) hK (hL ip1 (by omega)) rfl dX6_advance_40 ?_
          refine lv_astore (lv' := [(5, .ref (nm 3 ip1)), (0, .ref (nm 0 0)), (1, .int (nI ip1)), (2, .int (nI ip2)), (3, .int p3), (4, .int p4)]) hx hb dX6_advance_43 hl (by decide) rfl (fun ls hl => ?_)
          refine lv_aload hx hb dX6_advance_45 (lv_at hl 0 rfl) ?_
          refine x_getN (v := .ref (nm 5 ip1)) hx hb hts h_X4 hown hK (hL ip1 (by omega)) rfl 5 (by decide) (va_Nw.use rfl (hK.2.2.1 ("ConfigBeacon", 141, "ConfigBeacon$Layer", "rollouts", "[LConfigBeacon$Rollout;") (by decide))) (fun _ h => h) rfl dX6_advance_47 ?_
          refine lv_iload_n hx hb dX6_advance_50 rfl (lv_at hl 3 rfl) ?_
          rcases hRl ip1 ip2 (by omega) (by omega) with ⟨e1, e2⟩ | ⟨e1, e2, hR5, hR6⟩
          · refine x_aald hx hb hK 3 rfl (hRo ip1 (by omega)) ip2 rfl (by omega) (by decide) (v := none) e1 dX6_advance_51 ?_
            refine lv_astoreN (lv' := [(6, .null), (5, .ref (nm 3 ip1)), (0, .ref (nm 0 0)), (1, .int (nI ip1)), (2, .int (nI ip2)), (3, .int p3), (4, .int p4)]) hx hb dX6_advance_52 hl (by decide) rfl (fun ls hl => ?_)
            refine lv_aload hx hb dX6_advance_54 (lv_at hl 1 rfl) ?_
            refine lv_iload_n hx hb dX6_advance_56 rfl (lv_at hl 4 rfl) ?_
            refine lv_iload hx hb dX6_advance_57 (lv_at hl 6 rfl) ?_
            refine xr_call (va_runV (As := [.int (nI ip2), .int p4]) (rest := []) ⟨hx, hb, hml, hown, hts⟩ (c_X4_isHeldAgainst l D cA (nm 3 ip1) ip1 (f 4 ip1) (f 5 ip1) (f 3 ip1) (nm 4 ip1) (nm 5 ip1) (nm 6 ip1) (hoF f ip1) ip2 (by omega) p4) (cwV 2 hts gX6_advance_X4_isHeldAgainst rfl rfl rfl (by decide +kernel) ⟨Nat.le_of_ble_eq_true rfl, Nat.le_of_ble_eq_true rfl⟩) (xPV hK (hL ip1 (by omega)) rfl ⟨hL ip1 (by omega), hHo ip1 (by omega)⟩) rfl rfl hl.1 rfl (lv_room (Nat.le_of_ble_eq_true rfl)) dX6_advance_59 ⟨Nat.le_of_ble_eq_true rfl, Nat.le_of_ble_eq_true rfl⟩) ?_
            refine xb_ne (tgt := 79) hx hb dX6_advance_62 (by decide) (fun c_7 => ?_) (fun c_7 => ?_)
            · have Lc_7 : lckF (f 11) (16 * ip1 + ip2) p4 = true := by rw [← lck_he iLk (by omega)]; exact c_7
              have hk9 : kAd (mS f) nL (nI ip1) (nI ip2) p3 p4 = 3 := by simp [kAd, wrF, mS, cl_nI (show ip1 < 8 by omega) (show ip2 < 16 by omega), e2, b_1, c_2, c_4, Lc_7]
              obtain ⟨hXu, hXn, ⟨tx1, hx1⟩, ⟨tx2, hx2⟩, ⟨tx3, hx3⟩, ⟨tx4, hx4⟩, ⟨tx5, hx5⟩, ⟨tx6, hx6⟩, hXd, hXs⟩ := hX.2
              exact vx_throwS hx hb hst hown (cls := "java/lang/IllegalStateException") (names := ["java/lang/RuntimeException", "java/lang/Exception"]) (by decide +kernel) (by decide +kernel) (hts (.classLink RX6 159 "java/lang/IllegalStateException") (by decide +kernel)) (hts (.initialized "java/lang/IllegalStateException") (by decide +kernel)) hx5 (vx_hat (B := [.declares (Bundle.initS "java/lang/RuntimeException"), .declares (Bundle.initS "java/lang/Exception"), .declares (Bundle.initS "java/lang/Throwable"), .castable "java/lang/IllegalStateException" "java/lang/IllegalStateException"]) (fun w h => hts w ((fun _ h => List.mem_cons_of_mem _ (List.mem_append_left _ (List.mem_append_left _ (List.mem_append_right _ h)))) w h)) (by decide +kernel) (vx_c (va_Nw.use rfl (hXd "java/lang/RuntimeException" (by decide))) (vx_c (va_Nw.use rfl (hXd "java/lang/Exception" (by decide))) (vx_c (va_Nw.use rfl (hXd "java/lang/Throwable" (by decide))) (vx_c (va_Nw.use rfl (hXs "java/lang/IllegalStateException" (by decide))) vx_n))))) (by decide +kernel) hXu hXn hS (hl.1.trans hml.symm) dX6_advance_79 dX6_advance_82 dX6_advance_83 dX6_advance_85 dX6_advance_88 (fun x hx => (ht x hx).elim) (by decide) (by decide) (Nat.le_of_ble_eq_true rfl) (Nat.le_of_ble_eq_true rfl) hlocks (fun t hv hz hk => ⟨by rw [hk9]; decide, by rw [hk9] <;> rfl, hCS0.same (fun q h1 _ => hk q h1), hz, fun q h1 _ => hk q h1⟩) (fun z h => nomatch h) (Nat.le_of_ble_eq_true rfl) (Nat.le_of_ble_eq_true rfl)
            · have Lc_7 : lckF (f 11) (16 * ip1 + ip2) p4 = false := by rw [← lck_he iLk (by omega)]; exact c_7
              refine lv_aloadN hx hb dX6_advance_65 (lv_at hl 0 rfl) ?_
              refine lv_ifnullN (tgt := 79) hx hb dX6_advance_67 (by decide) ?_
              have hk9 : kAd (mS f) nL (nI ip1) (nI ip2) p3 p4 = 3 := by simp [kAd, wrF, mS, cl_nI (show ip1 < 8 by omega) (show ip2 < 16 by omega), e2, b_1, c_2, c_4, Lc_7]
              obtain ⟨hXu, hXn, ⟨tx1, hx1⟩, ⟨tx2, hx2⟩, ⟨tx3, hx3⟩, ⟨tx4, hx4⟩, ⟨tx5, hx5⟩, ⟨tx6, hx6⟩, hXd, hXs⟩ := hX.2
              exact vx_throwS hx hb hst hown (cls := "java/lang/IllegalStateException") (names := ["java/lang/RuntimeException", "java/lang/Exception"]) (by decide +kernel) (by decide +kernel) (hts (.classLink RX6 159 "java/lang/IllegalStateException") (by decide +kernel)) (hts (.initialized "java/lang/IllegalStateException") (by decide +kernel)) hx5 (vx_hat (B := [.declares (Bundle.initS "java/lang/RuntimeException"), .declares (Bundle.initS "java/lang/Exception"), .declares (Bundle.initS "java/lang/Throwable"), .castable "java/lang/IllegalStateException" "java/lang/IllegalStateException"]) (fun w h => hts w ((fun _ h => List.mem_cons_of_mem _ (List.mem_append_left _ (List.mem_append_left _ (List.mem_append_right _ h)))) w h)) (by decide +kernel) (vx_c (va_Nw.use rfl (hXd "java/lang/RuntimeException" (by decide))) (vx_c (va_Nw.use rfl (hXd "java/lang/Exception" (by decide))) (vx_c (va_Nw.use rfl (hXd "java/lang/Throwable" (by decide))) (vx_c (va_Nw.use rfl (hXs "java/lang/IllegalStateException" (by decide))) vx_n))))) (by decide +kernel) hXu hXn hS (hl.1.trans hml.symm) dX6_advance_79 dX6_advance_82 dX6_advance_83 dX6_advance_85 dX6_advance_88 (fun x hx => (ht x hx).elim) (by decide) (by decide) (Nat.le_of_ble_eq_true rfl) (Nat.le_of_ble_eq_true rfl) hlocks (fun t hv hz hk => ⟨by rw [hk9]; decide, by rw [hk9] <;> rfl, hCS0.same (fun q h1 _ => hk q h1), hz, fun q h1 _ => hk q h1⟩) (fun z h => nomatch h) (Nat.le_of_ble_eq_true rfl) (Nat.le_of_ble_eq_true rfl)
          · refine x_aald hx hb hK 3 rfl (hRo ip1 (by omega)) ip2 rfl (by omega) (by decide) (v := some (nm 10 (16 * ip1 + ip2))) e1 dX6_advance_51 ?_
            refine lv_astore (lv' := [(6, .ref (nm 10 (16 * ip1 + ip2))), (5, .ref (nm 3 ip1)), (0, .ref (nm 0 0)), (1, .int (nI ip1)), (2, .int (nI ip2)), (3, .int p3), (4, .int p4)]) hx hb dX6_advance_52 hl (by decide) rfl (fun ls hl => ?_)
            refine lv_aload hx hb dX6_advance_54 (lv_at hl 1 rfl) ?_
            refine lv_iload_n hx hb dX6_advance_56 rfl (lv_at hl 4 rfl) ?_
            refine lv_iload hx hb dX6_advance_57 (lv_at hl 6 rfl) ?_
            refine xr_call (va_runV (As := [.int (nI ip2), .int p4]) (rest := []) ⟨hx, hb, hml, hown, hts⟩ (c_X4_isHeldAgainst l D cA (nm 3 ip1) ip1 (f 4 ip1) (f 5 ip1) (f 3 ip1) (nm 4 ip1) (nm 5 ip1) (nm 6 ip1) (hoF f ip1) ip2 (by omega) p4) (cwV 2 hts gX6_advance_X4_isHeldAgainst rfl rfl rfl (by decide +kernel) ⟨Nat.le_of_ble_eq_true rfl, Nat.le_of_ble_eq_true rfl⟩) (xPV hK (hL ip1 (by omega)) rfl ⟨hL ip1 (by omega), hHo ip1 (by omega)⟩) rfl rfl hl.1 rfl (lv_room (Nat.le_of_ble_eq_true rfl)) dX6_advance_59 ⟨Nat.le_of_ble_eq_true rfl, Nat.le_of_ble_eq_true rfl⟩) ?_
            refine xb_ne (tgt := 79) hx hb dX6_advance_62 (by decide) (fun c_8 => ?_) (fun c_8 => ?_)
            · have Lc_8 : lckF (f 11) (16 * ip1 + ip2) p4 = true := by rw [← lck_he iLk (by omega)]; exact c_8
              have hk9 : kAd (mS f) nL (nI ip1) (nI ip2) p3 p4 = 3 := by simp [kAd, wrF, mS, cl_nI (show ip1 < 8 by omega) (show ip2 < 16 by omega), e2, b_1, c_2, c_4, Lc_8]
              obtain ⟨hXu, hXn, ⟨tx1, hx1⟩, ⟨tx2, hx2⟩, ⟨tx3, hx3⟩, ⟨tx4, hx4⟩, ⟨tx5, hx5⟩, ⟨tx6, hx6⟩, hXd, hXs⟩ := hX.2
              exact vx_throwS hx hb hst hown (cls := "java/lang/IllegalStateException") (names := ["java/lang/RuntimeException", "java/lang/Exception"]) (by decide +kernel) (by decide +kernel) (hts (.classLink RX6 159 "java/lang/IllegalStateException") (by decide +kernel)) (hts (.initialized "java/lang/IllegalStateException") (by decide +kernel)) hx5 (vx_hat (B := [.declares (Bundle.initS "java/lang/RuntimeException"), .declares (Bundle.initS "java/lang/Exception"), .declares (Bundle.initS "java/lang/Throwable"), .castable "java/lang/IllegalStateException" "java/lang/IllegalStateException"]) (fun w h => hts w ((fun _ h => List.mem_cons_of_mem _ (List.mem_append_left _ (List.mem_append_left _ (List.mem_append_right _ h)))) w h)) (by decide +kernel) (vx_c (va_Nw.use rfl (hXd "java/lang/RuntimeException" (by decide))) (vx_c (va_Nw.use rfl (hXd "java/lang/Exception" (by decide))) (vx_c (va_Nw.use rfl (hXd "java/lang/Throwable" (by decide))) (vx_c (va_Nw.use rfl (hXs "java/lang/IllegalStateException" (by decide))) vx_n))))) (by decide +kernel) hXu hXn hS (hl.1.trans hml.symm) dX6_advance_79 dX6_advance_82 dX6_advance_83 dX6_advance_85 dX6_advance_88 (fun x hx => (ht x hx).elim) (by decide) (by decide) (Nat.le_of_ble_eq_true rfl) (Nat.le_of_ble_eq_true rfl) hlocks (fun t hv hz hk => ⟨by rw [hk9]; decide, by rw [hk9] <;> rfl, hCS0.same (fun q h1 _ => hk q h1), hz, fun q h1 _ => hk q h1⟩) (fun z h => nomatch h) (Nat.le_of_ble_eq_true rfl) (Nat.le_of_ble_eq_true rfl)
            · have Lc_8 : lckF (f 11) (16 * ip1 + ip2) p4 = false := by rw [← lck_he iLk (by omega)]; exact c_8
              refine lv_aload hx hb dX6_advance_65 (lv_at hl 0 rfl) ?_
              refine lv_ifnull hx hb dX6_advance_67 ?_
              refine lv_iload_n hx hb dX6_advance_70 rfl (lv_at hl 5 rfl) ?_
              refine lv_aload hx hb dX6_advance_71 (lv_at hl 0 rfl) ?_
              refine x_getN (v := .int (f 10 (16 * ip1 + ip2))) hx hb hts h_X5 hown hK hR5 rfl 1 (by decide) (va_Nw.use rfl (hK.2.2.1 ("ConfigBeacon", 156, "ConfigBeacon$Rollout", "share", "I") (by decide))) (fun _ h => h) rfl dX6_advance_73 ?_
              refine lv_icmp_gt (tgt := 89) hx hb dX6_advance_76 (by decide) (fun c_9 => ?_) (fun c_9 => ?_)
              · refine lv_aload hx hb dX6_advance_89 (lv_at hl 0 rfl) ?_
                refine lv_iload_n hx hb dX6_advance_91 rfl (lv_at hl 5 rfl) ?_
                have hl10 := hl9.2.2.2.2.2.2.2.2.2 ip1 ip2 hip1 hip2 (by rw [e1]; simp)
                have hA10 : A (nm 10 (16 * ip1 + ip2)) := hl9.1 _ (by rw [hl10.1]; omega)
                refine x_putN hx hb hts h_X5 tyX5 tyX5_ok nmX5 hown hK hR5 hS hA10 rfl 1 (by decide) (va_Nw.use rfl (hK.2.2.1 ("ConfigBeacon", 156, "ConfigBeacon$Rollout", "share", "I") (by decide))) (fun _ h => h) rfl (tyX5_ok 1 (by decide)) rfl rfl (Nat.le_of_ble_eq_true rfl) dX6_advance_92 (fun H locs hR5 z9 q9 hS => ?_)
                have hR5 : xO D (nm 10 (16 * ip1 + ip2)) 6 [.ref (nm 11 (16 * ip1 + ip2)), .int p3] H := hR5
                have hsh : 0 ≤ p3 := by have h1 := (inB_iff.mp c_2).1; rw [Int32.le_iff_toInt_le] at h1 ⊢; have e1 : (1 : Int32).toInt = 1 := (by decide); have e0 : (0 : Int32).toInt = 0 := (by decide); omega
                obtain ⟨hV1, hIQ1⟩ := sh_CRv hV hl9 hIQ hip1 b2 b1 hip2 e1 hsh (fun q _ h => q9 q h) hR5
                have hR6 := hR6.kept1 (fun _ => q9 _ (fun e => by have h1 := hl10.2; rw [show nm 11 (16 * ip1 + ip2) = nm 10 (16 * ip1 + ip2) from e, hl10.1] at h1; omega))
                have hi1 := hi0.ab (16 * ip1 + ip2) p3 (show (16 * ip1 + ip2) < 16 * nL by omega)
                refine lv_aload_n hx hb dX6_advance_95 rfl (lv_at hl 2 rfl) ?_
                refine lv_iload_n hx hb dX6_advance_96 rfl (lv_at hl 3 rfl) ?_
                refine lv_iload_n hx hb dX6_advance_97 rfl (lv_at hl 4 rfl) ?_
                refine lv_iload_n hx hb dX6_advance_98 rfl (lv_at hl 5 rfl) ?_
                refine xr_call (va_runV (As := [.int (nI ip1), .int (nI ip2), .int p3]) (rest := []) ⟨hx, hb, hml, hown, hts⟩ (c_X6_countShown l D cA lab nm rf (mup f 10 (16 * ip1 + ip2) p3) nC nL nV hi1 ip1 ip2 p3 (by omega) (by omega)) (cwV 3 hts gX6_advance_X6_countShown rfl rfl rfl (by decide +kernel) ⟨Nat.le_of_ble_eq_true rfl, Nat.le_of_ble_eq_true rfl⟩) (xPV hK hV1.1 rfl hV1) rfl rfl hl.1 rfl (lv_room (Nat.le_of_ble_eq_true rfl)) dX6_advance_99 ⟨Nat.le_of_ble_eq_true rfl, Nat.le_of_ble_eq_true rfl⟩) ?_
                refine lv_istore (lv' := [(7, .int (nI (cntF (fun c => forF (mup f 10 (16 * ip1 + ip2) p3) ip1 c && decide (nI (bk c ip1 ip2) < p3)) nC))), (6, .ref (nm 10 (16 * ip1 + ip2))), (5, .ref (nm 3 ip1)), (0, .ref (nm 0 0)), (1, .int (nI ip1)), (2, .int (nI ip2)), (3, .int p3), (4, .int p4)]) hx hb dX6_advance_102 hl (by decide) rfl (fun ls hl => ?_)
                refine lv_iload_n hx hb dX6_advance_104 rfl (lv_at hl 6 rfl) ?_
                refine lv_bipush (v := 100) hx hb dX6_advance_105 (by decide) ?_
                refine lv_icmp_ne (tgt := 129) hx hb dX6_advance_107 (by decide) (fun c_10 => ?_) (fun c_10 => ?_)
                · refine lv_iload hx hb dX6_advance_129 (lv_at hl 0 rfl) ?_
                  refine vx_ret ?_
                  exact xw_iret hx hb hr hlocks hS ⟨(by simp [kAd, wrF, mS, cl_nI (show ip1 < 8 by omega) (show ip2 < 16 by omega), e2, b_1, c_2, c_4, Lc_8, c_9, Int32.not_le.mpr c_9]), (by rw [ix_nI (show ip1 < 65536 by omega), cl_nI (by omega) (by omega), ad_cnt hip2 (mupN (by decide)) (mupN (by decide)) (mupN (by decide)) (mupN (by decide))]), (by have hl1 : p3 < 100 := (by have h1 := (inB_iff.mp c_2).2; rw [Int32.le_iff_toInt_le] at h1; have h2 := c_10; rw [← Int32.toInt_inj] at h2; rw [Int32.lt_iff_toInt_lt]; have e1 : (100 : Int32).toInt = 100 := (by decide); omega); rw [cl_nI (by omega) (by omega), show adN f nV (16 * ip1 + ip2) p3 = nV from if_pos hl1, show adS (mS f) nV (16 * ip1 + ip2) p3 = sa (mS f) 10 (16 * ip1 + ip2) p3 from if_pos hl1]; exact ⟨lab, nm, rf, hV1, hl9, hIQ1, rfl, rfl⟩)⟩ (Nat.le_of_ble_eq_true rfl) (Nat.le_of_ble_eq_true rfl) dX6_advance_131
                · refine lv_aload hx hb dX6_advance_110 (lv_at hl 2 rfl) ?_
                  have hI1 := hV1
                  refine x_getN (v := .ref (nm 5 ip1)) hx hb hts h_X4 hown hK (hV1.2.2.2.2.2.1 ip1 hip1) rfl 5 (by decide) (va_Nw.use rfl (hK.2.2.1 ("ConfigBeacon", 141, "ConfigBeacon$Layer", "rollouts", "[LConfigBeacon$Rollout;") (by decide))) (fun _ h => h) rfl dX6_advance_112 ?_
                  refine lv_iload_n hx hb dX6_advance_115 rfl (lv_at hl 5 rfl) ?_
                  refine lv_null hx hb dX6_advance_116 ?_
                  have hA1 : A (nm 5 ip1) := hl9.1 _ (by rw [(hl9.2.2.2.2.2.2.2.2.1 ip1 (by omega)).2.2.1]; omega)
                  refine x_aastN hx hb hK 3 rfl (hV1.2.2.2.2.2.2.2.1 ip1 hip1) hS hA1 ip2 rfl (by omega) (by decide) dX6_advance_117 (fun H locs hW1 z9 q9 hS => ?_)
                  obtain ⟨hC1, hC2, hC3⟩ := ab_CS hV1 hl9 hIQ1 hip1 b2 b1 hip2 (fun q _ h => q9 q h) hW1
                  rw [mup_mup] at hC1
                  have hR5 := va_at.kept hR5 (q9 _ (fun e => by have h1 := hl10.1; rw [show nm 10 (16 * ip1 + ip2) = nm 5 ip1 from e, (hl9.2.2.2.2.2.2.2.2.1 ip1 (by omega)).2.2.1] at h1; omega))
                  have hE9 := hR6.kept1 (fun _ => q9 _ (fun e => by have h1 := hl10.2; rw [show nm 11 (16 * ip1 + ip2) = nm 5 ip1 from e, (hl9.2.2.2.2.2.2.2.2.1 ip1 (by omega)).2.2.1] at h1; omega))
                  refine lv_aload_n hx hb dX6_advance_118 rfl (lv_at hl 3 rfl) ?_
                  refine lv_iload_n hx hb dX6_advance_119 rfl (lv_at hl 4 rfl) ?_
                  refine lv_iload_n hx hb dX6_advance_120 rfl (lv_at hl 5 rfl) ?_
                  refine lv_aload hx hb dX6_advance_121 (lv_at hl 1 rfl) ?_
                  refine x_getN (v := .ref (nm 11 (16 * ip1 + ip2))) hx hb hts h_X5 hown hK hR5 rfl 0 (by decide) (va_Nw.use rfl (hK.2.2.1 ("ConfigBeacon", 168, "ConfigBeacon$Rollout", "entry", "LConfigBeacon$Entry;") (by decide))) (fun _ h => h) rfl dX6_advance_123 ?_
                  have hsz := hS.1
                  have hV2 := hC1
                  have hl2 := hC2
                  have hIQ2 := hC3
                  refine xw_calln (va_runV (As := [.int (nI ip1), .int (nI ip2), .ref (nm 11 (16 * ip1 + ip2))]) (rest := []) ⟨hx, hb, hml, hown, hts⟩ (c_X6_enter_s l D cA lab nm _ (mup f 10 (16 * ip1 + ip2) (-1)) nC nL nV (hi0.ab (16 * ip1 + ip2) (-1) (show (16 * ip1 + ip2) < 16 * nL by omega)) A hl2 H (fun x h => hAn x (Nat.le_trans hsz h)) ip1 ip2 (f 9 (16 * ip1 + ip2)) hip1 hip2 (nm 11 (16 * ip1 + ip2)) hl10.2) (cwV 3 hts gX6_advance_X6_enter rfl rfl rfl (by decide +kernel) ⟨Nat.le_of_ble_eq_true rfl, Nat.le_of_ble_eq_true rfl⟩) (xPXV hK zK.blind (fun U hU hW => hX.1.at hS (fun _ h => h) hU hW) hV2.1 rfl ⟨rfl, hV2, hIQ2, hE9⟩) rfl rfl hl.1 rfl (lv_room (Nat.le_of_ble_eq_true rfl)) dX6_advance_126 ⟨Nat.le_of_ble_eq_true rfl, Nat.le_of_ble_eq_true rfl⟩) hS (fun _ _ h => h) (fun _ h => h) (fun H9 locs hJ z9 q9 hS => ?_)
                  rw [ex_cnt (show (16 * ip1 + ip2) < 16 * nL by omega)] at hJ
                  by_cases he : (mup f 10 (16 * ip1 + ip2) (-1)) 7 (16 * ip1 + ip2) = (f 9 (16 * ip1 + ip2))
                  · rw [if_pos he, if_pos rfl] at hJ
                    obtain ⟨lab2, nm2, rf2, hV3, hl3, hIQ3, hz3, ho3⟩ := hJ
                    have hT3 := hV3.1
                    obtain ⟨mc3, d3, cap3, f3, hO3, -⟩ := hV3.2.2.2.1
                    rw [ho3] at hT3
                    refine lv_iload hx hb dX6_advance_129 (lv_at hl 0 rfl) ?_
                    refine vx_ret ?_
                    exact xw_iret hx hb hr hlocks hS ⟨(by simp [kAd, wrF, mS, cl_nI (show ip1 < 8 by omega) (show ip2 < 16 by omega), e2, b_1, c_2, c_4, Lc_8, c_9, Int32.not_le.mpr c_9]), (by rw [ix_nI (show ip1 < 65536 by omega), cl_nI (by omega) (by omega), ad_cnt hip2 (mupN (by decide)) (mupN (by decide)) (mupN (by decide)) (mupN (by decide))]), (by have hn1 : ¬ p3 < 100 := (by rw [c_10]; decide); have he1 : f 7 (16 * ip1 + ip2) = f 9 (16 * ip1 + ip2) := (by have h1 := he; rw [mupN (by decide)] at h1; exact h1); rw [cl_nI (by omega) (by omega), show adN f nV (16 * ip1 + ip2) p3 = nV from (if_neg hn1).trans (if_pos he1), show adS (mS f) nV (16 * ip1 + ip2) p3 = mS (mup f 10 (16 * ip1 + ip2) (-1)) from (if_neg hn1).trans (if_pos he)]; exact ⟨lab2, nm2, rf2, hV3, hl3, hIQ3, hz3, ho3⟩)⟩ (Nat.le_of_ble_eq_true rfl) (Nat.le_of_ble_eq_true rfl) dX6_advance_131
                  · rw [if_neg he, if_neg (by decide)] at hJ
                    obtain ⟨lab2, nm2, rf2, hV3, hl3, hIQ3, hz3, ho3⟩ := hJ
                    have hT3 := hV3.1
                    obtain ⟨mc3, d3, cap3, f3, hO3, -⟩ := hV3.2.2.2.1
                    rw [ho3] at hT3
                    refine lv_iload hx hb dX6_advance_129 (lv_at hl 0 rfl) ?_
                    refine vx_ret ?_
                    exact xw_iret hx hb hr hlocks hS ⟨(by simp [kAd, wrF, mS, cl_nI (show ip1 < 8 by omega) (show ip2 < 16 by omega), e2, b_1, c_2, c_4, Lc_8, c_9, Int32.not_le.mpr c_9]), (by rw [ix_nI (show ip1 < 65536 by omega), cl_nI (by omega) (by omega), ad_cnt hip2 (mupN (by decide)) (mupN (by decide)) (mupN (by decide)) (mupN (by decide))]), (by have hn1 : ¬ p3 < 100 := (by rw [c_10]; decide); have he1 : ¬ f 7 (16 * ip1 + ip2) = f 9 (16 * ip1 + ip2) := (by have h1 := he; rw [mupN (by decide)] at h1; exact h1); rw [cl_nI (by omega) (by omega), show adN f nV (16 * ip1 + ip2) p3 = nV + 1 from (if_neg hn1).trans (if_neg he1), show (adS (mS f) nV (16 * ip1 + ip2) p3).2.1 = tuG (mup f 10 (16 * ip1 + ip2) (-1)) (exF (mup f 10 (16 * ip1 + ip2) (-1)) (16 * ip1 + ip2) (f 9 (16 * ip1 + ip2))) nV (16 * nL) from by rw [ex_put (by omega) (by omega) he]; exact congrArg (fun z : MS => z.2.1) (if_neg hn1)]; exact ⟨lab2, nm2, rf2, hV3, hl3, hIQ3, hz3, ho3⟩)⟩ (Nat.le_of_ble_eq_true rfl) (Nat.le_of_ble_eq_true rfl) dX6_advance_131
              · have hk9 : kAd (mS f) nL (nI ip1) (nI ip2) p3 p4 = 3 := by simp [kAd, wrF, mS, cl_nI (show ip1 < 8 by omega) (show ip2 < 16 by omega), e2, b_1, c_2, c_4, Lc_8, c_9, Int32.not_lt.mp c_9]
                obtain ⟨hXu, hXn, ⟨tx1, hx1⟩, ⟨tx2, hx2⟩, ⟨tx3, hx3⟩, ⟨tx4, hx4⟩, ⟨tx5, hx5⟩, ⟨tx6, hx6⟩, hXd, hXs⟩ := hX.2
                exact vx_throwS hx hb hst hown (cls := "java/lang/IllegalStateException") (names := ["java/lang/RuntimeException", "java/lang/Exception"]) (by decide +kernel) (by decide +kernel) (hts (.classLink RX6 159 "java/lang/IllegalStateException") (by decide +kernel)) (hts (.initialized "java/lang/IllegalStateException") (by decide +kernel)) hx5 (vx_hat (B := [.declares (Bundle.initS "java/lang/RuntimeException"), .declares (Bundle.initS "java/lang/Exception"), .declares (Bundle.initS "java/lang/Throwable"), .castable "java/lang/IllegalStateException" "java/lang/IllegalStateException"]) (fun w h => hts w ((fun _ h => List.mem_cons_of_mem _ (List.mem_append_left _ (List.mem_append_left _ (List.mem_append_right _ h)))) w h)) (by decide +kernel) (vx_c (va_Nw.use rfl (hXd "java/lang/RuntimeException" (by decide))) (vx_c (va_Nw.use rfl (hXd "java/lang/Exception" (by decide))) (vx_c (va_Nw.use rfl (hXd "java/lang/Throwable" (by decide))) (vx_c (va_Nw.use rfl (hXs "java/lang/IllegalStateException" (by decide))) vx_n))))) (by decide +kernel) hXu hXn hS (hl.1.trans hml.symm) dX6_advance_79 dX6_advance_82 dX6_advance_83 dX6_advance_85 dX6_advance_88 (fun x hx => (ht x hx).elim) (by decide) (by decide) (Nat.le_of_ble_eq_true rfl) (Nat.le_of_ble_eq_true rfl) hlocks (fun t hv hz hk => ⟨by rw [hk9]; decide, by rw [hk9] <;> rfl, hCS0.same (fun q h1 _ => hk q h1), hz, fun q h1 _ => hk q h1⟩) (fun z h => nomatch h) (Nat.le_of_ble_eq_true rfl) (Nat.le_of_ble_eq_true rfl)
