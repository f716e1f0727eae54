set_option maxHeartbeats 4000000 in
set_option maxRecDepth 100000 in
theorem c_X6_rollback (l : Launch) (hst : l.stackTraces = false) (D : va_G) (cA : Nat → ClassId) (lab : Nat → Nat) (nm : Nat → Nat → Nat) (rf : Nat → Nat → Option Nat) (f : Nat → Nat → Int32) (nC nL nV : Nat) (hi : CRi f nC nL nV) (A : Nat → Prop) (hl9 : CRl A lab nm rf nC nL) (H9 : Heap) (p1 : Int32) (p2 : Int32) (hAn : ∀ q, H9.size ≤ q → A q) : vx_Met l yX6_rollback wsX6_rollback (rmK 41 5 1020) (xPX D cA (fun U => pK A (nm 12 0) U) [.ref (nm 0 0), .int p1, .int p2] (fun H => H = H9 ∧ CRv D cA lab nm rf f nC nL nV H ∧ IQ0 D cA nm H)) (xW (pJ (kRo (mS f) nV p1 p2) (some (.int (nI (cntF (difF f (ix p1)) 128)))) (CS D cA A (nm 12 0) (nm 0 0) (if cntF (difF f (ix p1)) 128 = 0 then f else (rollS (mS f) nV (ix p1)).2.1) nC nL (if cntF (difF f (ix p1)) 128 = 0 then nV else nV + 1))) A) (xT (kRo (mS f) nV p1 p2) (fun k => (if k = 1 then eI else (if k = 2 then eA else eS))) (CS D cA A (nm 12 0) (nm 0 0) f nC nL nV) A) 5 1020 A := by
  refine vx_ofW (cc := cX6_rollback) (maxL := 4) (ret := (some .int)) (by decide) rfl ?_
  intro p e s m args below meth c s₁ B hml ht hv
  obtain ⟨rfl, ⟨hK, hX⟩, hI⟩ := hv
  have hx := B.exec
  have hb := B.bytes
  have hr := B.returns
  have hts := atoms_spec (ws := wsX6_rollback) B.pre
  have hown : s.vm.findClass RX6 = some m.cls := findClass_of_methodNamed B.named
  have hlocks := B.notSynchronized
  have hl := lv_entry ([.ref (nm 0 0), .int p1, .int p2]) (n := 4) (Nat.le_of_ble_eq_true rfl)
  rw [lg_entry_eq]
  generalize (lg_sl ([.ref (nm 0 0), .int p1, .int p2]) ++ List.replicate (4 - (lg_sl ([.ref (nm 0 0), .int p1, .int p2])).length) Slot.unset).toArray = ls at hl ⊢
  have hl : lv_has ls 4 [(0, .ref (nm 0 0)), (1, .int p1), (2, .int p2)] := hl
  have h_X1 : ∀ w ∈ wsX10, w ∈ wsX6_rollback := fun _ h => List.mem_cons_of_mem _ (List.mem_append_left _ (List.mem_append_left _ (List.mem_append_left _ (List.mem_append_left _ (List.mem_append_left _ (List.mem_append_right _ h))))))
  have h_X2 : ∀ w ∈ wsX20, w ∈ wsX6_rollback := fun _ h => List.mem_cons_of_mem _ (List.mem_append_left _ (List.mem_append_left _ (List.mem_append_left _ (List.mem_append_left _ (List.mem_append_right _ h)))))
  have h_X4 : ∀ w ∈ wsX40, w ∈ wsX6_rollback := fun _ h => List.mem_cons_of_mem _ (List.mem_append_left _ (List.mem_append_left _ (List.mem_append_left _ (List.mem_append_right _ h))))
  have h_X6 : ∀ w ∈ wsX60, w ∈ wsX6_rollback := fun _ h => List.mem_cons_of_mem _ (List.mem_append_left _ (List.mem_append_left _ (List.mem_append_left _ (List.mem_append_left _ (List.mem_append_left _ (List.mem_append_left _ (List.mem_append_left _ (List.mem_append_right _ h))))))))
  have h_Jx4a65c : ∀ w ∈ wsJx4a65c0, w ∈ wsX6_rollback := fun _ h => List.mem_cons_of_mem _ (List.mem_append_left _ (List.mem_append_left _ (List.mem_append_left _ (List.mem_append_left _ (List.mem_append_left _ (List.mem_append_left _ (List.mem_append_right _ h)))))))
  obtain ⟨hH9, hI, hIQ⟩ := hI
  subst hH9
  have hV := hI
  have hi0 := hi
  obtain ⟨hT, ⟨mcC, dC, capC, fC, hOC, hQC, hnC, hcC, hfC, -⟩, ⟨mcL, dL, capL, fL, hOL, hQL, hnL, hcL, hfL, -⟩, ⟨mcV, dV, capV, fV, hOV, hQV, hnV, hcV, hfV, -⟩, hC, hL, hHo, hRo, hCh, hRl, hEn⟩ := hI
  obtain ⟨b1, b2, b3, iSel, iGd, iCur, iZero, iLk, iLkA, iLkB⟩ := hi
  have hS : va_S A s.heap s.heap [] := va_S.rf
  have hCS0 : CS D cA A (nm 12 0) (nm 0 0) f nC nL nV s.heap := ⟨lab, nm, rf, hV, hl9, hIQ, rfl, rfl⟩
  refine lv_aload_n hx hb dX6_rollback_0 rfl (lv_at hl 0 rfl) ?_
  refine lv_iload_n hx hb dX6_rollback_1 rfl (lv_at hl 1 rfl) ?_
  refine xr_call (va_runV (As := [.int p1]) (rest := []) ⟨hx, hb, hml, hown, hts⟩ (c_X6_isVersion l D cA lab nm rf f nC nL nV (⟨b1, b2, b3, iSel, iGd, iCur, iZero, iLk, iLkA, iLkB⟩) p1) (cwV 1 hts gX6_rollback_X6_isVersion rfl rfl rfl (by decide +kernel) ⟨Nat.le_of_ble_eq_true rfl, Nat.le_of_ble_eq_true rfl⟩) (xPV hK hT rfl hV) rfl rfl hl.1 rfl (lv_room (Nat.le_of_ble_eq_true rfl)) dX6_rollback_2 ⟨Nat.le_of_ble_eq_true rfl, Nat.le_of_ble_eq_true rfl⟩) ?_
  refine xx_check (E0 := eI) (vx_runS (As := [.int (bI (okN (nV + 1) p1))]) (rest := []) ⟨hx, hb, hml, hown, hts⟩ (c_X6_checkThere l hst D cA A (okN (nV + 1) p1) (bI (okN (nV + 1) p1)) rfl) (va_cwS 1 hts gX6_rollback_X6_checkThere rfl rfl rfl (by decide +kernel) ⟨Nat.le_of_ble_eq_true rfl, Nat.le_of_ble_eq_true rfl⟩) (xPXS hK tK.blind (fun U hU hW => hX.2.at hS (fun _ h => h) hU hW) trivial) rfl rfl hl.1 rfl (lv_room (Nat.le_of_ble_eq_true rfl)) dX6_rollback_5 ⟨Nat.le_of_ble_eq_true rfl, Nat.le_of_ble_eq_true rfl⟩) hS (fun b_1 ce q9 H1 z1 k1 hS1 g1 g2 g3 => ?_) (fun b_1 => ?_)
  · have hk9 : kRo (mS f) nV p1 p2 = 1 := by simp [kRo, b_1]
    exact vx_out (fun x hx => (ht x hx).elim) hlocks g1 g2 g3 (fun t ht9 _ => ⟨by rw [hk9]; decide, by rw [hk9] <;> rfl, by rw [ht9]; exact hCS0.same (fun q h1 _ => k1 q h1), hS1.F ht9⟩) hS1.2.2 (Nat.le_of_ble_eq_true rfl) (Nat.le_of_ble_eq_true rfl)
  · have _b_1 := b_1
    obtain ⟨ip1, hip1, ep1⟩ := okN_of (n := (nV + 1)) (v := p1) (by omega) (by have h9 := b_1; (try simp only [Bool.and_eq_true] at h9); simp [h9])
    subst ep1
    refine lv_iload_n hx hb dX6_rollback_8 rfl (lv_at hl 2 rfl) ?_
    refine xr_call (va_runS (As := [.int p2]) (rest := []) ⟨hx, hb, hml, hown, hts⟩ (c_X6_isOwner l D cA p2) (va_cwS 1 hts gX6_rollback_X6_isOwner rfl rfl rfl (by decide +kernel) ⟨Nat.le_of_ble_eq_true rfl, Nat.le_of_ble_eq_true rfl⟩) (xPS hK trivial) rfl rfl hl.1 rfl (lv_room (Nat.le_of_ble_eq_true rfl)) dX6_rollback_9 ⟨Nat.le_of_ble_eq_true rfl, Nat.le_of_ble_eq_true rfl⟩) ?_
    refine xx_check (E0 := eA) (vx_runS (As := [.int (bI (okO p2))]) (rest := []) ⟨hx, hb, hml, hown, hts⟩ (c_X6_checkArgument l hst D cA A (okO p2) (bI (okO p2)) rfl) (va_cwS 1 hts gX6_rollback_X6_checkArgument rfl rfl rfl (by decide +kernel) ⟨Nat.le_of_ble_eq_true rfl, Nat.le_of_ble_eq_true rfl⟩) (xPXS hK tK.blind (fun U hU hW => hX.2.at hS (fun _ h => h) hU hW) trivial) rfl rfl hl.1 rfl (lv_room (Nat.le_of_ble_eq_true rfl)) dX6_rollback_12 ⟨Nat.le_of_ble_eq_true rfl, Nat.le_of_ble_eq_true rfl⟩) hS (fun b_2 ce q9 H1 z1 k1 hS1 g1 g2 g3 => ?_) (fun b_2 => ?_)
    · have hk9 : kRo (mS f) nV (nI ip1) p2 = 2 := by simp [kRo, b_1, b_2]
      exact vx_out (fun x hx => (ht x hx).elim) hlocks g1 g2 g3 (fun t ht9 _ => ⟨by rw [hk9]; decide, by rw [hk9] <;> rfl, by rw [ht9]; exact hCS0.same (fun q h1 _ => k1 q h1), hS1.F ht9⟩) hS1.2.2 (Nat.le_of_ble_eq_true rfl) (Nat.le_of_ble_eq_true rfl)
    · have _b_2 := b_2
      refine lv_aload_n hx hb dX6_rollback_15 rfl (lv_at hl 0 rfl) ?_
      refine x_get (v := .ref (nm 1 2)) hx hb hts h_X6 hown hK hT rfl 2 (by decide) (hts (.fieldLink RX6 19 "ConfigBeacon" "versions" "Ljava/util/ArrayList;") (by decide +kernel)) (fun _ h => h) rfl dX6_rollback_16 ?_
      refine lv_iload_n hx hb dX6_rollback_19 rfl (lv_at hl 1 rfl) ?_
      refine xr_call (va_runV (As := [.int (nI ip1)]) (rest := []) ⟨hx, hb, hml, hown, hts⟩ (c_Jx4a65c_get_915e3 l D cA (nm 1 2) mcV dV (nV + 1) capV fV ip1 (by omega) hnV hcV (some (nm 7 ip1)) (hfV ip1 (by omega))) (cwV 1 hts gX6_rollback_Jx4a65c_get_915e3 rfl rfl rfl (by decide +kernel) ⟨Nat.le_of_ble_eq_true rfl, Nat.le_of_ble_eq_true rfl⟩) (xPV hK hOV rfl ⟨hOV, hQV (by omega)⟩) rfl rfl hl.1 rfl (lv_room (Nat.le_of_ble_eq_true rfl)) dX6_rollback_20 ⟨Nat.le_of_ble_eq_true rfl, Nat.le_of_ble_eq_true rfl⟩) ?_
      refine x_cast hx hb hown (hts (.classLink RX6 29 "ConfigBeacon$Entries") (by decide +kernel)) hK (hEn ip1 (by omega)).choose_spec.choose_spec.1 rfl dX6_rollback_23 ?_
      refine lv_astore_n (lv' := [(3, .ref (nm 7 ip1)), (0, .ref (nm 0 0)), (1, .int (nI ip1)), (2, .int p2)]) hx hb dX6_rollback_26 rfl hl (by decide) rfl (fun ls hl => ?_)
      refine lv_aload_n hx hb dX6_rollback_27 rfl (lv_at hl 1 rfl) ?_
      refine lv_aload_n hx hb dX6_rollback_28 rfl (lv_at hl 0 rfl) ?_
      refine lv_iload_n hx hb dX6_rollback_29 rfl (lv_at hl 3 rfl) ?_
      have hWE : ENT D cA lab (nm 7 ip1) (fun k => f 12 (128 * ip1 + k)) s.heap := hEn ip1 (by omega)
      refine xr_call (va_runV (As := [.ref (nm 7 ip1), .int p2]) (rest := []) ⟨hx, hb, hml, hown, hts⟩ (c_X6_canTurnInto l D cA lab nm rf f nC nL nV hi0 (nm 7 ip1) (fun k => f 12 (128 * ip1 + k)) p2) (cwV 2 hts gX6_rollback_X6_canTurnInto rfl rfl rfl (by decide +kernel) ⟨Nat.le_of_ble_eq_true rfl, Nat.le_of_ble_eq_true rfl⟩) (xPV hK hT rfl ⟨hV, hWE⟩) rfl rfl hl.1 rfl (lv_room (Nat.le_of_ble_eq_true rfl)) dX6_rollback_30 ⟨Nat.le_of_ble_eq_true rfl, Nat.le_of_ble_eq_true rfl⟩) ?_
      refine xx_check (E0 := eS) (vx_runS (As := [.int (bI (!anyF (barC f (fun k => f 12 (128 * ip1 + k)) p2) (16 * nL)))]) (rest := []) ⟨hx, hb, hml, hown, hts⟩ (c_X6_checkState l hst D cA A (!anyF (barC f (fun k => f 12 (128 * ip1 + k)) p2) (16 * nL)) (bI (!anyF (barC f (fun k => f 12 (128 * ip1 + k)) p2) (16 * nL))) rfl) (va_cwS 1 hts gX6_rollback_X6_checkState rfl rfl rfl (by decide +kernel) ⟨Nat.le_of_ble_eq_true rfl, Nat.le_of_ble_eq_true rfl⟩) (xPXS hK tK.blind (fun U hU hW => hX.2.at hS (fun _ h => h) hU hW) trivial) rfl rfl hl.1 rfl (lv_room (Nat.le_of_ble_eq_true rfl)) dX6_rollback_33 ⟨Nat.le_of_ble_eq_true rfl, Nat.le_of_ble_eq_true rfl⟩) hS (fun b_3 ce q9 H1 z1 k1 hS1 g1 g2 g3 => ?_) (fun b_3 => ?_)
      · have hk9 : kRo (mS f) nV (nI ip1) p2 = 3 := by unfold kRo; rw [b_1, b_2, ix_nI (show ip1 < 65536 by omega)]; show (if true = true then (if true = true then (if anyF (barR f ip1 p2) 128 = true then (3 : Int32) else 0) else 2) else 1) = _; rw [roll_bar hi0 (by omega)]; have h9 := b_3; revert h9; cases anyF (barC f (fun k => f 12 (128 * ip1 + k)) p2) (16 * nL) <;> decide
        exact vx_out (fun x hx => (ht x hx).elim) hlocks g1 g2 g3 (fun t ht9 _ => ⟨by rw [hk9]; decide, by rw [hk9] <;> rfl, by rw [ht9]; exact hCS0.same (fun q h1 _ => k1 q h1), hS1.F ht9⟩) hS1.2.2 (Nat.le_of_ble_eq_true rfl) (Nat.le_of_ble_eq_true rfl)
      · have _b_3 := b_3
        refine lv_aload_n hx hb dX6_rollback_36 rfl (lv_at hl 1 rfl) ?_
        refine lv_aload_n hx hb dX6_rollback_37 rfl (lv_at hl 0 rfl) ?_
        refine xw_call (va_runV (As := [.ref (nm 7 ip1)]) (rest := []) ⟨hx, hb, hml, hown, hts⟩ (c_X6_turnInto l D cA lab nm rf f nC nL nV hi0 A hl9 s.heap hAn (nm 7 ip1) (fun k => f 12 (128 * ip1 + k))) (cwV 1 hts gX6_rollback_X6_turnInto rfl rfl rfl (by decide +kernel) ⟨Nat.le_of_ble_eq_true rfl, Nat.le_of_ble_eq_true rfl⟩) (xPXV hK zK.blind (fun U hU hW => hX.1.at hS (fun _ h => h) hU hW) hT rfl ⟨rfl, hV, hIQ, hWE⟩) rfl rfl hl.1 rfl (lv_room (Nat.le_of_ble_eq_true rfl)) dX6_rollback_38 ⟨Nat.le_of_ble_eq_true rfl, Nat.le_of_ble_eq_true rfl⟩) hS (fun _ _ h => h) (fun _ h => h) (fun r H locs hJ z9 q9 hS => ?_)
        obtain ⟨rfl, hJ⟩ := hJ
        refine W.eq (g2 := F0 m 41 ls [.int (nI (cntF (dfF f (fun k => f 12 (128 * ip1 + k))) (16 * nL)))]) rfl ?_
        refine vx_ret ?_
        exact xw_iret hx hb hr hlocks hS ⟨(by unfold kRo; rw [b_1, b_2, ix_nI (show ip1 < 65536 by omega)]; show (if true = true then (if true = true then (if anyF (barR f ip1 p2) 128 = true then (3 : Int32) else 0) else 2) else 1) = _; rw [roll_bar hi0 (by omega)]; have h9 := b_3; revert h9; cases anyF (barC f (fun k => f 12 (128 * ip1 + k)) p2) (16 * nL) <;> decide), (by rw [ix_nI (show ip1 < 65536 by omega), roll_cnt hi0 (by omega)]), (by rw [ix_nI (show ip1 < 65536 by omega), roll_cnt hi0 (by omega)]; by_cases hc : cntF (dfF f (fun k => f 12 (128 * ip1 + k))) (16 * nL) = 0 <;> simp only [hc, if_true, if_false] at hJ ⊢ <;> first | exact hJ | (rw [← roll_eq hi0 (by omega)]; exact hJ))⟩ (Nat.le_of_ble_eq_true rfl) (Nat.le_of_ble_eq_true rfl) dX6_rollback_41
