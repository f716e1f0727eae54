set_option maxHeartbeats 4000000 in
set_option maxRecDepth 100000 in
theorem c_X6_status (l : Launch) (hst : l.stackTraces = false) (D : va_G) (cA : Nat → ClassId) (lab : Nat → Nat) (nm : Nat → Nat → Nat) (rf : Nat → Nat → Option Nat) (f : Nat → Nat → Int32) (nC nL nV : Nat) (hi : CRi f nC nL nV) (A : Nat → Prop) (hl9 : CRl A lab nm rf nC nL) (H9 : Heap) (p1 : Int32) (p2 : Int32) : vx_Met l yX6_status wsX6_status (rmK 41 3 18) (xPX D cA (fun U => pK A (nm 12 0) U) [.ref (nm 0 0), .int p1, .int p2] (fun H => H = H9 ∧ CRv D cA lab nm rf f nC nL nV H ∧ IQ0 D cA nm H)) (xW (pJ (kFo nC p1 p2) (some (.int (akT (akE (mS f) (ix p1) none nL (ix p2))))) (CS D cA A (nm 12 0) (nm 0 0) f nC nL nV)) A) (xT (kFo nC p1 p2) (fun k => eI) (CS D cA A (nm 12 0) (nm 0 0) f nC nL nV) A) 3 18 A := by
  refine vx_ofW (cc := cX6_status) (maxL := 3) (ret := (some .int)) (by decide) rfl ?_
  intro p e s m args below meth c s₁ B hml ht hv
  obtain ⟨rfl, ⟨hK, hX⟩, hI⟩ := hv
  have hx := B.exec
  have hb := B.bytes
  have hr := B.returns
  have hts := atoms_spec (ws := wsX6_status) B.pre
  have hown : s.vm.findClass RX6 = some m.cls := findClass_of_methodNamed B.named
  have hlocks := B.notSynchronized
  have hl := lv_entry ([.ref (nm 0 0), .int p1, .int p2]) (n := 3) (Nat.le_of_ble_eq_true rfl)
  rw [lg_entry_eq]
  generalize (lg_sl ([.ref (nm 0 0), .int p1, .int p2]) ++ List.replicate (3 - (lg_sl ([.ref (nm 0 0), .int p1, .int p2])).length) Slot.unset).toArray = ls at hl ⊢
  have hl : lv_has ls 3 [(0, .ref (nm 0 0)), (1, .int p1), (2, .int p2)] := hl
  have h_X0 : ∀ w ∈ wsX00, w ∈ wsX6_status := fun _ h => List.mem_cons_of_mem _ (List.mem_append_left _ (List.mem_append_left _ (List.mem_append_left _ (List.mem_append_right _ h))))
  have h_X1 : ∀ w ∈ wsX10, w ∈ wsX6_status := fun _ h => List.mem_cons_of_mem _ (List.mem_append_left _ (List.mem_append_right _ h))
  have h_X2 : ∀ w ∈ wsX20, w ∈ wsX6_status := fun _ h => List.mem_cons_of_mem _ (List.mem_append_left _ (List.mem_append_left _ (List.mem_append_left _ (List.mem_append_left _ (List.mem_append_left _ (List.mem_append_right _ h))))))
  have h_X3 : ∀ w ∈ wsX30, w ∈ wsX6_status := fun _ h => List.mem_cons_of_mem _ (List.mem_append_left _ (List.mem_append_left _ (List.mem_append_left _ (List.mem_append_left _ (List.mem_append_left _ (List.mem_append_left _ (List.mem_append_left _ (List.mem_append_right _ h))))))))
  have h_X4 : ∀ w ∈ wsX40, w ∈ wsX6_status := fun _ h => List.mem_cons_of_mem _ (List.mem_append_left _ (List.mem_append_left _ (List.mem_append_left _ (List.mem_append_left _ (List.mem_append_right _ h)))))
  have h_X5 : ∀ w ∈ wsX50, w ∈ wsX6_status := fun _ h => List.mem_cons_of_mem _ (List.mem_append_left _ (List.mem_append_left _ (List.mem_append_right _ h)))
  have h_X6 : ∀ w ∈ wsX60, w ∈ wsX6_status := fun _ h => List.mem_cons_of_mem _ (List.mem_append_left _ (List.mem_append_left _ (List.mem_append_left _ (List.mem_append_left _ (List.mem_append_left _ (List.mem_append_left _ (List.mem_append_left _ (List.mem_append_left _ (List.mem_append_right _ h)))))))))
  have h_Jx4a65c : ∀ w ∈ wsJx4a65c0, w ∈ wsX6_status := fun _ h => List.mem_cons_of_mem _ (List.mem_append_left _ (List.mem_append_left _ (List.mem_append_left _ (List.mem_append_left _ (List.mem_append_left _ (List.mem_append_left _ (List.mem_append_right _ h)))))))
  obtain ⟨hH9, hI, hIQ⟩ := hI
  subst hH9
  have hV := hI
  have hi0 := hi
  obtain ⟨hT, ⟨mcC, dC, capC, fC, hOC, hQC, hnC, hcC, hfC, -⟩, ⟨mcL, dL, capL, fL, hOL, hQL, hnL, hcL, hfL, -⟩, ⟨mcV, dV, capV, fV, hOV, hQV, hnV, hcV, hfV, -⟩, hC, hL, hHo, hRo, hCh, hRl, hEn⟩ := hI
  obtain ⟨b1, b2, b3, iSel, iGd, iCur, iZero, iLk, iLkA, iLkB⟩ := hi
  have hS : va_S A s.heap s.heap [] := va_S.rf
  have hCS0 : CS D cA A (nm 12 0) (nm 0 0) f nC nL nV s.heap := ⟨lab, nm, rf, hV, hl9, hIQ, rfl, rfl⟩
  have hA9 : ∀ q, A9 nm q → A q := fun q h => hl9.1 q (by rcases h with h | h <;> rw [h] <;> first | (rw [hl9.2.2.2.2.2.1]; omega) | (rw [hl9.2.2.2.2.2.2.1]; omega))
  refine lv_aload_n hx hb dX6_status_0 rfl (lv_at hl 0 rfl) ?_
  refine lv_iload_n hx hb dX6_status_1 rfl (lv_at hl 1 rfl) ?_
  refine xr_call (va_runV (As := [.int p1]) (rest := []) ⟨hx, hb, hml, hown, hts⟩ (c_X6_isClient l D cA lab nm rf f nC nL nV (⟨b1, b2, b3, iSel, iGd, iCur, iZero, iLk, iLkA, iLkB⟩) p1) (cwV 1 hts gX6_status_X6_isClient rfl rfl rfl (by decide +kernel) ⟨Nat.le_of_ble_eq_true rfl, Nat.le_of_ble_eq_true rfl⟩) (xPV hK hT rfl hV) rfl rfl hl.1 rfl (lv_room (Nat.le_of_ble_eq_true rfl)) dX6_status_2 ⟨Nat.le_of_ble_eq_true rfl, Nat.le_of_ble_eq_true rfl⟩) ?_
  refine xb_eq (tgt := 19) hx hb dX6_status_5 (by decide) (fun c_1 => ?_) (fun c_1 => ?_)
  · refine lv_iconst (v := 0) hx hb dX6_status_19 (by decide) ?_
    refine xx_check (E0 := eI) (vx_runS (As := [.int 0]) (rest := []) ⟨hx, hb, hml, hown, hts⟩ (c_X6_checkThere l hst D cA A false 0 (by decide)) (va_cwS 1 hts gX6_status_X6_checkThere rfl rfl rfl (by decide +kernel) ⟨Nat.le_of_ble_eq_true rfl, Nat.le_of_ble_eq_true rfl⟩) (xPXS hK tK.blind (fun U hU hW => hX.2.at hS (fun _ h => h) hU hW) trivial) rfl rfl hl.1 rfl (lv_room (Nat.le_of_ble_eq_true rfl)) dX6_status_20 ⟨Nat.le_of_ble_eq_true rfl, Nat.le_of_ble_eq_true rfl⟩) hS (fun b_2 ce q9 H1 z1 k1 hS1 g1 g2 g3 => ?_) (fun b_2 => ?_)
    · have hk9 : kFo nC p1 p2 = 1 := by simp [kFo, c_1]
      exact vx_out (fun x hx => (ht x hx).elim) hlocks g1 g2 g3 (fun t ht9 _ => ⟨by rw [hk9]; decide, by rw [hk9] <;> rfl, by rw [ht9]; exact hCS0.same (fun q h1 _ => k1 q h1), hS1.F ht9⟩) hS1.2.2 (Nat.le_of_ble_eq_true rfl) (Nat.le_of_ble_eq_true rfl)
    · exact absurd b_2 (by decide)
  · refine lv_iload_n hx hb dX6_status_8 rfl (lv_at hl 2 rfl) ?_
    refine xr_call (va_runS (As := [.int p2]) (rest := []) ⟨hx, hb, hml, hown, hts⟩ (c_X6_isSetting l D cA p2) (va_cwS 1 hts gX6_status_X6_isSetting rfl rfl rfl (by decide +kernel) ⟨Nat.le_of_ble_eq_true rfl, Nat.le_of_ble_eq_true rfl⟩) (xPS hK trivial) rfl rfl hl.1 rfl (lv_room (Nat.le_of_ble_eq_true rfl)) dX6_status_9 ⟨Nat.le_of_ble_eq_true rfl, Nat.le_of_ble_eq_true rfl⟩) ?_
    refine xb_eq (tgt := 19) hx hb dX6_status_12 (by decide) (fun c_3 => ?_) (fun c_3 => ?_)
    · refine lv_iconst (v := 0) hx hb dX6_status_19 (by decide) ?_
      refine xx_check (E0 := eI) (vx_runS (As := [.int 0]) (rest := []) ⟨hx, hb, hml, hown, hts⟩ (c_X6_checkThere l hst D cA A false 0 (by decide)) (va_cwS 1 hts gX6_status_X6_checkThere rfl rfl rfl (by decide +kernel) ⟨Nat.le_of_ble_eq_true rfl, Nat.le_of_ble_eq_true rfl⟩) (xPXS hK tK.blind (fun U hU hW => hX.2.at hS (fun _ h => h) hU hW) trivial) rfl rfl hl.1 rfl (lv_room (Nat.le_of_ble_eq_true rfl)) dX6_status_20 ⟨Nat.le_of_ble_eq_true rfl, Nat.le_of_ble_eq_true rfl⟩) hS (fun b_4 ce q9 H1 z1 k1 hS1 g1 g2 g3 => ?_) (fun b_4 => ?_)
      · have hk9 : kFo nC p1 p2 = 1 := by simp [kFo, c_1, c_3]
        exact vx_out (fun x hx => (ht x hx).elim) hlocks g1 g2 g3 (fun t ht9 _ => ⟨by rw [hk9]; decide, by rw [hk9] <;> rfl, by rw [ht9]; exact hCS0.same (fun q h1 _ => k1 q h1), hS1.F ht9⟩) hS1.2.2 (Nat.le_of_ble_eq_true rfl) (Nat.le_of_ble_eq_true rfl)
      · exact absurd b_4 (by decide)
    · refine lv_iconst (v := 1) hx hb dX6_status_15 (by decide) ?_
      refine lv_goto (tgt := 20) hx hb dX6_status_16 (by decide) ?_
      refine xx_check (E0 := eI) (vx_runS (As := [.int 1]) (rest := []) ⟨hx, hb, hml, hown, hts⟩ (c_X6_checkThere l hst D cA A true 1 (by decide)) (va_cwS 1 hts gX6_status_X6_checkThere rfl rfl rfl (by decide +kernel) ⟨Nat.le_of_ble_eq_true rfl, Nat.le_of_ble_eq_true rfl⟩) (xPXS hK tK.blind (fun U hU hW => hX.2.at hS (fun _ h => h) hU hW) trivial) rfl rfl hl.1 rfl (lv_room (Nat.le_of_ble_eq_true rfl)) dX6_status_20 ⟨Nat.le_of_ble_eq_true rfl, Nat.le_of_ble_eq_true rfl⟩) hS (fun b_5 ce q9 H1 z1 k1 hS1 g1 g2 g3 => ?_) (fun b_5 => ?_)
      · exact absurd b_5 (by decide)
      · have _b_5 := b_5
        obtain ⟨ip1, hip1, ep1⟩ := okN_of (n := nC) (v := p1) (by omega) (by have h9 := c_1; (try simp only [Bool.and_eq_true] at h9); simp [h9])
        subst ep1
        obtain ⟨ip2, hip2, ep2⟩ := okS_of (v := p2) (by have h9 := c_3; (try simp only [Bool.and_eq_true] at h9); simp [h9])
        subst ep2
        refine lv_aload_n hx hb dX6_status_23 rfl (lv_at hl 0 rfl) ?_
        refine lv_iload_n hx hb dX6_status_24 rfl (lv_at hl 1 rfl) ?_
        refine lv_iload_n hx hb dX6_status_25 rfl (lv_at hl 2 rfl) ?_
        refine xw_calln (va_runV (As := [.int (nI ip1), .int (nI ip2)]) (rest := []) ⟨hx, hb, hml, hown, hts⟩ (c_X6_ask l D cA lab nm rf f nC nL nV hi0 A hl9 ip1 ip2 (by omega) (by omega)) (cwV 2 hts gX6_status_X6_ask rfl rfl rfl (by decide +kernel) ⟨Nat.le_of_ble_eq_true rfl, Nat.le_of_ble_eq_true rfl⟩) (xPV hK hT rfl ⟨hV, hIQ⟩) rfl rfl hl.1 rfl (lv_room (Nat.le_of_ble_eq_true rfl)) dX6_status_26 ⟨Nat.le_of_ble_eq_true rfl, Nat.le_of_ble_eq_true rfl⟩) hS (fun q _ h => hA9 q h) (fun q h => hA9 q h) (fun H locs hJ z9 q9 hS => ?_)
        obtain ⟨hV, uw6, kn6, oc6, fa6, g6, hQ6, eN6, eS6⟩ := hJ
        have hIQ : IQ0 D cA nm H := ⟨_, some _, _, _, _, _, _, _, _, hQ6.1.1, hQ6.2⟩
        have hCS0 : CS D cA A (nm 12 0) (nm 0 0) f nC nL nV H := ⟨lab, nm, rf, hV, hl9, hIQ, rfl, rfl⟩
        have hI9 := hV
        obtain ⟨hT, ⟨mcC, dC, capC, fC, hOC, hQC, hnC, hcC, hfC, -⟩, ⟨mcL, dL, capL, fL, hOL, hQL, hnL, hcL, hfL, -⟩, ⟨mcV, dV, capV, fV, hOV, hQV, hnV, hcV, hfV, -⟩, hC, hL, hHo, hRo, hCh, hRl, hEn⟩ := hI9
        have hT6 : akT (cvE f ip1 none nL ip2) = oc6 := (ak_oc eN6 eS6).symm
        refine lv_aload_n hx hb dX6_status_29 rfl (lv_at hl 0 rfl) ?_
        refine x_get (v := .ref (nm 9 0)) hx hb hts h_X6 hown hK hT rfl 3 (by decide) (hts (.fieldLink RX6 25 "ConfigBeacon" "inquiry" "LConfigBeacon$Inquiry;") (by decide +kernel)) (fun _ h => h) rfl dX6_status_30 ?_
        refine x_getN (v := .int oc6) hx hb hts h_X3 hown hK hQ6.1.1 rfl 7 (by decide) (va_Nw.use rfl (hK.2.2.1 ("ConfigBeacon", 210, "ConfigBeacon$Inquiry", "outcome", "I") (by decide))) (fun _ h => h) rfl dX6_status_33 ?_
        refine vx_ret ?_
        exact xw_iret hx hb hr hlocks hS ⟨(by simp [kFo, ix_nI (show ip1 < 65536 by omega), ix_nI (show ip2 < 65536 by omega), hT6, c_1, c_3]), (by rw [ix_nI (show ip1 < 65536 by omega), ix_nI (show ip2 < 65536 by omega)]; exact congrArg (fun z => some (Value.int z)) (ak_oc eN6 eS6)), hCS0⟩ (Nat.le_of_ble_eq_true rfl) (Nat.le_of_ble_eq_true rfl) dX6_status_36
set_option maxHeartbeats 4000000 in
set_option maxRecDepth 100000 in
theorem c_X6_culprit (l : Launch) (hst : l.stackTraces = false) (D : va_G) (cA : Nat → ClassId) (lab : Nat → Nat) (nm : Nat → Nat → Nat) (rf : Nat → Nat → Option Nat) (f : Nat → Nat → Int32) (nC nL nV : Nat) (hi : CRi f nC nL nV) (A : Nat → Prop) (hl9 : CRl A lab nm rf nC nL) (H9 : Heap) (p1 : Int32) (p2 : Int32) : vx_Met l yX6_culprit wsX6_culprit (rmK 41 3 18) (xPX D cA (fun U => pK A (nm 12 0) U) [.ref (nm 0 0), .int p1, .int p2] (fun H => H = H9 ∧ CRv D cA lab nm rf f nC nL nV H ∧ IQ0 D cA nm H)) (xW (pJ (kFo nC p1 p2) (some (.int (akQ (akE (mS f) (ix p1) none nL (ix p2))))) (CS D cA A (nm 12 0) (nm 0 0) f nC nL nV)) A) (xT (kFo nC p1 p2) (fun k => eI) (CS D cA A (nm 12 0) (nm 0 0) f nC nL nV) A) 3 18 A := by
  refine vx_ofW (cc := cX6_culprit) (maxL := 3) (ret := (some .int)) (by decide) rfl ?_
  intro p e s m args below meth c s₁ B hml ht hv
  obtain ⟨rfl, ⟨hK, hX⟩, hI⟩ := hv
  have hx := B.exec
  have hb := B.bytes
  have hr := B.returns
  have hts := atoms_spec (ws := wsX6_culprit) B.pre
  have hown : s.vm.findClass RX6 = some m.cls := findClass_of_methodNamed B.named
  have hlocks := B.notSynchronized
  have hl := lv_entry ([.ref (nm 0 0), .int p1, .int p2]) (n := 3) (Nat.le_of_ble_eq_true rfl)
  rw [lg_entry_eq]
  generalize (lg_sl ([.ref (nm 0 0), .int p1, .int p2]) ++ List.replicate (3 - (lg_sl ([.ref (nm 0 0), .int p1, .int p2])).length) Slot.unset).toArray = ls at hl ⊢
  have hl : lv_has ls 3 [(0, .ref (nm 0 0)), (1, .int p1), (2, .int p2)] := hl
  have h_X0 : ∀ w ∈ wsX00, w ∈ wsX6_culprit := fun _ h => List.mem_cons_of_mem _ (List.mem_append_left _ (List.mem_append_left _ (List.mem_append_left _ (List.mem_append_right _ h))))
  have h_X1 : ∀ w ∈ wsX10, w ∈ wsX6_culprit := fun _ h => List.mem_cons_of_mem _ (List.mem_append_left _ (List.mem_append_right _ h))
  have h_X2 : ∀ w ∈ wsX20, w ∈ wsX6_culprit := fun _ h => List.mem_cons_of_mem _ (List.mem_append_left _ (List.mem_append_left _ (List.mem_append_left _ (List.mem_append_left _ (List.mem_append_left _ (List.mem_append_right _ h))))))
  have h_X3 : ∀ w ∈ wsX30, w ∈ wsX6_culprit := fun _ h => List.mem_cons_of_mem _ (List.mem_append_left _ (List.mem_append_left _ (List.mem_append_left _ (List.mem_append_left _ (List.mem_append_left _ (List.mem_append_left _ (List.mem_append_left _ (List.mem_append_right _ h))))))))
  have h_X4 : ∀ w ∈ wsX40, w ∈ wsX6_culprit := fun _ h => List.mem_cons_of_mem _ (List.mem_append_left _ (List.mem_append_left _ (List.mem_append_left _ (List.mem_append_left _ (List.mem_append_right _ h)))))
  have h_X5 : ∀ w ∈ wsX50, w ∈ wsX6_culprit := fun _ h => List.mem_cons_of_mem _ (List.mem_append_left _ (List.mem_append_left _ (List.mem_append_right _ h)))
  have h_X6 : ∀ w ∈ wsX60, w ∈ wsX6_culprit := fun _ h => List.mem_cons_of_mem _ (List.mem_append_left _ (List.mem_append_left _ (List.mem_append_left _ (List.mem_append_left _ (List.mem_append_left _ (List.mem_append_left _ (List.mem_append_left _ (List.mem_append_left _ (List.mem_append_right _ h)))))))))
  have h_Jx4a65c : ∀ w ∈ wsJx4a65c0, w ∈ wsX6_culprit := fun _ h => List.mem_cons_of_mem _ (List.mem_append_left _ (List.mem_append_left _ (List.mem_append_left _ (List.mem_append_left _ (List.mem_append_left _ (List.mem_append_left _ (List.mem_append_right _ h)))))))
  obtain ⟨hH9, hI, hIQ⟩ := hI
  subst hH9
  have hV := hI
  have hi0 := hi
  obtain ⟨hT, ⟨mcC, dC, capC, fC, hOC, hQC, hnC, hcC, hfC, -⟩, ⟨mcL, dL, capL, fL, hOL, hQL, hnL, hcL, hfL, -⟩, ⟨mcV, dV, capV, fV, hOV, hQV, hnV, hcV, hfV, -⟩, hC, hL, hHo, hRo, hCh, hRl, hEn⟩ := hI
  obtain ⟨b1, b2, b3, iSel, iGd, iCur, iZero, iLk, iLkA, iLkB⟩ := hi
  have hS : va_S A s.heap s.heap [] := va_S.rf
  have hCS0 : CS D cA A (nm 12 0) (nm 0 0) f nC nL nV s.heap := ⟨lab, nm, rf, hV, hl9, hIQ, rfl, rfl⟩
  have hA9 : ∀ q, A9 nm q → A q := fun q h => hl9.1 q (by rcases h with h | h <;> rw [h] <;> first | (rw [hl9.2.2.2.2.2.1]; omega) | (rw [hl9.2.2.2.2.2.2.1]; omega))
  refine lv_aload_n hx hb dX6_culprit_0 rfl (lv_at hl 0 rfl) ?_
  refine lv_iload_n hx hb dX6_culprit_1 rfl (lv_at hl 1 rfl) ?_
  refine xr_call (va_runV (As := [.int p1]) (rest := []) ⟨hx, hb, hml, hown, hts⟩ (c_X6_isClient l D cA lab nm rf f nC nL nV (⟨b1, b2, b3, iSel, iGd, iCur, iZero, iLk, iLkA, iLkB⟩) p1) (cwV 1 hts gX6_culprit_X6_isClient rfl rfl rfl (by decide +kernel) ⟨Nat.le_of_ble_eq_true rfl, Nat.le_of_ble_eq_true rfl⟩) (xPV hK hT rfl hV) rfl rfl hl.1 rfl (lv_room (Nat.le_of_ble_eq_true rfl)) dX6_culprit_2 ⟨Nat.le_of_ble_eq_true rfl, Nat.le_of_ble_eq_true rfl⟩) ?_
  refine xb_eq (tgt := 19) hx hb dX6_culprit_5 (by decide) (fun c_1 => ?_) (fun c_1 => ?_)
  · refine lv_iconst (v := 0) hx hb dX6_culprit_19 (by decide) ?_
    refine xx_check (E0 := eI) (vx_runS (As := [.int 0]) (rest := []) ⟨hx, hb, hml, hown, hts⟩ (c_X6_checkThere l hst D cA A false 0 (by decide)) (va_cwS 1 hts gX6_culprit_X6_checkThere rfl rfl rfl (by decide +kernel) ⟨Nat.le_of_ble_eq_true rfl, Nat.le_of_ble_eq_true rfl⟩) (xPXS hK tK.blind (fun U hU hW => hX.2.at hS (fun _ h => h) hU hW) trivial) rfl rfl hl.1 rfl (lv_room (Nat.le_of_ble_eq_true rfl)) dX6_culprit_20 ⟨Nat.le_of_ble_eq_true rfl, Nat.le_of_ble_eq_true rfl⟩) hS (fun b_2 ce q9 H1 z1 k1 hS1 g1 g2 g3 => ?_) (fun b_2 => ?_)
    · have hk9 : kFo nC p1 p2 = 1 := by simp [kFo, c_1]
      exact vx_out (fun x hx => (ht x hx).elim) hlocks g1 g2 g3 (fun t ht9 _ => ⟨by rw [hk9]; decide, by rw [hk9] <;> rfl, by rw [ht9]; exact hCS0.same (fun q h1 _ => k1 q h1), hS1.F ht9⟩) hS1.2.2 (Nat.le_of_ble_eq_true rfl) (Nat.le_of_ble_eq_true rfl)
    · exact absurd b_2 (by decide)
  · refine lv_iload_n hx hb dX6_culprit_8 rfl (lv_at hl 2 rfl) ?_
    refine xr_call (va_runS (As := [.int p2]) (rest := []) ⟨hx, hb, hml, hown, hts⟩ (c_X6_isSetting l D cA p2) (va_cwS 1 hts gX6_culprit_X6_isSetting rfl rfl rfl (by decide +kernel) ⟨Nat.le_of_ble_eq_true rfl, Nat.le_of_ble_eq_true rfl⟩) (xPS hK trivial) rfl rfl hl.1 rfl (lv_room (Nat.le_of_ble_eq_true rfl)) dX6_culprit_9 ⟨Nat.le_of_ble_eq_true rfl, Nat.le_of_ble_eq_true rfl⟩) ?_
    refine xb_eq (tgt := 19) hx hb dX6_culprit_12 (by decide) (fun c_3 => ?_) (fun c_3 => ?_)
    · refine lv_iconst (v := 0) hx hb dX6_culprit_19 (by decide) ?_
      refine xx_check (E0 := eI) (vx_runS (As := [.int 0]) (rest := []) ⟨hx, hb, hml, hown, hts⟩ (c_X6_checkThere l hst D cA A false 0 (by decide)) (va_cwS 1 hts gX6_culprit_X6_checkThere rfl rfl rfl (by decide +kernel) ⟨Nat.le_of_ble_eq_true rfl, Nat.le_of_ble_eq_true rfl⟩) (xPXS hK tK.blind (fun U hU hW => hX.2.at hS (fun _ h => h) hU hW) trivial) rfl rfl hl.1 rfl (lv_room (Nat.le_of_ble_eq_true rfl)) dX6_culprit_20 ⟨Nat.le_of_ble_eq_true rfl, Nat.le_of_ble_eq_true rfl⟩) hS (fun b_4 ce q9 H1 z1 k1 hS1 g1 g2 g3 => ?_) (fun b_4 => ?_)
      · have hk9 : kFo nC p1 p2 = 1 := by simp [kFo, c_1, c_3]
        exact vx_out (fun x hx => (ht x hx).elim) hlocks g1 g2 g3 (fun t ht9 _ => ⟨by rw [hk9]; decide, by rw [hk9] <;> rfl, by rw [ht9]; exact hCS0.same (fun q h1 _ => k1 q h1), hS1.F ht9⟩) hS1.2.2 (Nat.le_of_ble_eq_true rfl) (Nat.le_of_ble_eq_true rfl)
      · exact absurd b_4 (by decide)
    · refine lv_iconst (v := 1) hx hb dX6_culprit_15 (by decide) ?_
      refine lv_goto (tgt := 20) hx hb dX6_culprit_16 (by decide) ?_
      refine xx_check (E0 := eI) (vx_runS (As := [.int 1]) (rest := []) ⟨hx, hb, hml, hown, hts⟩ (c_X6_checkThere l hst D cA A true 1 (by decide)) (va_cwS 1 hts gX6_culprit_X6_checkThere rfl rfl rfl (by decide +kernel) ⟨Nat.le_of_ble_eq_true rfl, Nat.le_of_ble_eq_true rfl⟩) (xPXS hK tK.blind (fun U hU hW => hX.2.at hS (fun _ h => h) hU hW) trivial) rfl rfl hl.1 rfl (lv_room (Nat.le_of_ble_eq_true rfl)) dX6_culprit_20 ⟨Nat.le_of_ble_eq_true rfl, Nat.le_of_ble_eq_true rfl⟩) hS (fun b_5 ce q9 H1 z1 k1 hS1 g1 g2 g3 => ?_) (fun b_5 => ?_)
      · exact absurd b_5 (by decide)
      · have _b_5 := b_5
        obtain ⟨ip1, hip1, ep1⟩ := okN_of (n := nC) (v := p1) (by omega) (by have h9 := c_1; (try simp only [Bool.and_eq_true] at h9); simp [h9])
        subst ep1
        obtain ⟨ip2, hip2, ep2⟩ := okS_of (v := p2) (by have h9 := c_3; (try simp only [Bool.and_eq_true] at h9); simp [h9])
        subst ep2
        refine lv_aload_n hx hb dX6_culprit_23 rfl (lv_at hl 0 rfl) ?_
        refine lv_iload_n hx hb dX6_culprit_24 rfl (lv_at hl 1 rfl) ?_
        refine lv_iload_n hx hb dX6_culprit_25 rfl (lv_at hl 2 rfl) ?_
        refine xw_calln (va_runV (As := [.int (nI ip1), .int (nI ip2)]) (rest := []) ⟨hx, hb, hml, hown, hts⟩ (c_X6_ask l D cA lab nm rf f nC nL nV hi0 A hl9 ip1 ip2 (by omega) (by omega)) (cwV 2 hts gX6_culprit_X6_ask rfl rfl rfl (by decide +kernel) ⟨Nat.le_of_ble_eq_true rfl, Nat.le_of_ble_eq_true rfl⟩) (xPV hK hT rfl ⟨hV, hIQ⟩) rfl rfl hl.1 rfl (lv_room (Nat.le_of_ble_eq_true rfl)) dX6_culprit_26 ⟨Nat.le_of_ble_eq_true rfl, Nat.le_of_ble_eq_true rfl⟩) hS (fun q _ h => hA9 q h) (fun q h => hA9 q h) (fun H locs hJ z9 q9 hS => ?_)
        obtain ⟨hV, uw6, kn6, oc6, fa6, g6, hQ6, eN6, eS6⟩ := hJ
        have hIQ : IQ0 D cA nm H := ⟨_, some _, _, _, _, _, _, _, _, hQ6.1.1, hQ6.2⟩
        have hCS0 : CS D cA A (nm 12 0) (nm 0 0) f nC nL nV H := ⟨lab, nm, rf, hV, hl9, hIQ, rfl, rfl⟩
        have hI9 := hV
        obtain ⟨hT, ⟨mcC, dC, capC, fC, hOC, hQC, hnC, hcC, hfC, -⟩, ⟨mcL, dL, capL, fL, hOL, hQL, hnL, hcL, hfL, -⟩, ⟨mcV, dV, capV, fV, hOV, hQV, hnV, hcV, hfV, -⟩, hC, hL, hHo, hRo, hCh, hRl, hEn⟩ := hI9
        have hT6 : akT (cvE f ip1 none nL ip2) = oc6 := (ak_oc eN6 eS6).symm
        refine lv_aload_n hx hb dX6_culprit_29 rfl (lv_at hl 0 rfl) ?_
        refine x_get (v := .ref (nm 9 0)) hx hb hts h_X6 hown hK hT rfl 3 (by decide) (hts (.fieldLink RX6 25 "ConfigBeacon" "inquiry" "LConfigBeacon$Inquiry;") (by decide +kernel)) (fun _ h => h) rfl dX6_culprit_30 ?_
        refine x_getN (v := .int fa6) hx hb hts h_X3 hown hK hQ6.1.1 rfl 8 (by decide) (va_Nw.use rfl (hK.2.2.1 ("ConfigBeacon", 217, "ConfigBeacon$Inquiry", "failing", "I") (by decide))) (fun _ h => h) rfl dX6_culprit_33 ?_
        refine vx_ret ?_
        exact xw_iret hx hb hr hlocks hS ⟨(by simp [kFo, ix_nI (show ip1 < 65536 by omega), ix_nI (show ip2 < 65536 by omega), hT6, c_1, c_3]), (by rw [ix_nI (show ip1 < 65536 by omega), ix_nI (show ip2 < 65536 by omega)]; exact congrArg (fun z => some (Value.int z)) (ak_fa eN6 eS6)), hCS0⟩ (Nat.le_of_ble_eq_true rfl) (Nat.le_of_ble_eq_true rfl) dX6_culprit_36
set_option maxHeartbeats 4000000 in
set_option maxRecDepth 100000 in
theorem c_X6_uses (l : Launch) (hst : l.stackTraces = false) (D : va_G) (cA : Nat → ClassId) (lab : Nat → Nat) (nm : Nat → Nat → Nat) (rf : Nat → Nat → Option Nat) (f : Nat → Nat → Int32) (nC nL nV : Nat) (hi : CRi f nC nL nV) (A : Nat → Prop) (hl9 : CRl A lab nm rf nC nL) (H9 : Heap) (p1 : Int32) (p2 : Int32) : vx_Met l yX6_uses wsX6_uses (rmK 41 3 18) (xPX D cA (fun U => pK A (nm 12 0) U) [.ref (nm 0 0), .int p1, .int p2] (fun H => H = H9 ∧ CRv D cA lab nm rf f nC nL nV H ∧ IQ0 D cA nm H)) (xW (pJ (kFo nC p1 p2) (some (.int ((akE (mS f) (ix p1) none nL (ix p2)).1.1))) (CS D cA A (nm 12 0) (nm 0 0) f nC nL nV)) A) (xT (kFo nC p1 p2) (fun k => eI) (CS D cA A (nm 12 0) (nm 0 0) f nC nL nV) A) 3 18 A := by
  refine vx_ofW (cc := cX6_uses) (maxL := 3) (ret := (some .int)) (by decide) rfl ?_
  intro p e s m args below meth c s₁ B hml ht hv
  obtain ⟨rfl, ⟨hK, hX⟩, hI⟩ := hv
  have hx := B.exec
  have hb := B.bytes
  have hr := B.returns
  have hts := atoms_spec (ws := wsX6_uses) B.pre
  have hown : s.vm.findClass RX6 = some m.cls := findClass_of_methodNamed B.named
  have hlocks := B.notSynchronized
  have hl := lv_entry ([.ref (nm 0 0), .int p1, .int p2]) (n := 3) (Nat.le_of_ble_eq_true rfl)
  rw [lg_entry_eq]
  generalize (lg_sl ([.ref (nm 0 0), .int p1, .int p2]) ++ List.replicate (3 - (lg_sl ([.ref (nm 0 0), .int p1, .int p2])).length) Slot.unset).toArray = ls at hl ⊢
  have hl : lv_has ls 3 [(0, .ref (nm 0 0)), (1, .int p1), (2, .int p2)] := hl
  have h_X0 : ∀ w ∈ wsX00, w ∈ wsX6_uses := fun _ h => List.mem_cons_of_mem _ (List.mem_append_left _ (List.mem_append_left _ (List.mem_append_left _ (List.mem_append_right _ h))))
  have h_X1 : ∀ w ∈ wsX10, w ∈ wsX6_uses := fun _ h => List.mem_cons_of_mem _ (List.mem_append_left _ (List.mem_append_right _ h))
  have h_X2 : ∀ w ∈ wsX20, w ∈ wsX6_uses := fun _ h => List.mem_cons_of_mem _ (List.mem_append_left _ (List.mem_append_left _ (List.mem_append_left _ (List.mem_append_left _ (List.mem_append_left _ (List.mem_append_right _ h))))))
  have h_X3 : ∀ w ∈ wsX30, w ∈ wsX6_uses := fun _ h => List.mem_cons_of_mem _ (List.mem_append_left _ (List.mem_append_left _ (List.mem_append_left _ (List.mem_append_left _ (List.mem_append_left _ (List.mem_append_left _ (List.mem_append_left _ (List.mem_append_right _ h))))))))
  have h_X4 : ∀ w ∈ wsX40, w ∈ wsX6_uses := fun _ h => List.mem_cons_of_mem _ (List.mem_append_left _ (List.mem_append_left _ (List.mem_append_left _ (List.mem_append_left _ (List.mem_append_right _ h)))))
  have h_X5 : ∀ w ∈ wsX50, w ∈ wsX6_uses := fun _ h => List.mem_cons_of_mem _ (List.mem_append_left _ (List.mem_append_left _ (List.mem_append_right _ h)))
  have h_X6 : ∀ w ∈ wsX60, w ∈ wsX6_uses := fun _ h => List.mem_cons_of_mem _ (List.mem_append_left _ (List.mem_append_left _ (List.mem_append_left _ (List.mem_append_left _ (List.mem_append_left _ (List.mem_append_left _ (List.mem_append_left _ (List.mem_append_left _ (List.mem_append_right _ h)))))))))
  have h_Jx4a65c : ∀ w ∈ wsJx4a65c0, w ∈ wsX6_uses := fun _ h => List.mem_cons_of_mem _ (List.mem_append_left _ (List.mem_append_left _ (List.mem_append_left _ (List.mem_append_left _ (List.mem_append_left _ (List.mem_append_left _ (List.mem_append_right _ h)))))))
  obtain ⟨hH9, hI, hIQ⟩ := hI
  subst hH9
  have hV := hI
  have hi0 := hi
  obtain ⟨hT, ⟨mcC, dC, capC, fC, hOC, hQC, hnC, hcC, hfC, -⟩, ⟨mcL, dL, capL, fL, hOL, hQL, hnL, hcL, hfL, -⟩, ⟨mcV, dV, capV, fV, hOV, hQV, hnV, hcV, hfV, -⟩, hC, hL, hHo, hRo, hCh, hRl, hEn⟩ := hI
  obtain ⟨b1, b2, b3, iSel, iGd, iCur, iZero, iLk, iLkA, iLkB⟩ := hi
  have hS : va_S A s.heap s.heap [] := va_S.rf
  have hCS0 : CS D cA A (nm 12 0) (nm 0 0) f nC nL nV s.heap := ⟨lab, nm, rf, hV, hl9, hIQ, rfl, rfl⟩
  have hA9 : ∀ q, A9 nm q → A q := fun q h => hl9.1 q (by rcases h with h | h <;> rw [h] <;> first | (rw [hl9.2.2.2.2.2.1]; omega) | (rw [hl9.2.2.2.2.2.2.1]; omega))
  refine lv_aload_n hx hb dX6_uses_0 rfl (lv_at hl 0 rfl) ?_
  refine lv_iload_n hx hb dX6_uses_1 rfl (lv_at hl 1 rfl) ?_
  refine xr_call (va_runV (As := [.int p1]) (rest := []) ⟨hx, hb, hml, hown, hts⟩ (c_X6_isClient l D cA lab nm rf f nC nL nV (⟨b1, b2, b3, iSel, iGd, iCur, iZero, iLk, iLkA, iLkB⟩) p1) (cwV 1 hts gX6_uses_X6_isClient rfl rfl rfl (by decide +kernel) ⟨Nat.le_of_ble_eq_true rfl, Nat.le_of_ble_eq_true rfl⟩) (xPV hK hT rfl hV) rfl rfl hl.1 rfl (lv_room (Nat.le_of_ble_eq_true rfl)) dX6_uses_2 ⟨Nat.le_of_ble_eq_true rfl, Nat.le_of_ble_eq_true rfl⟩) ?_
  refine xb_eq (tgt := 19) hx hb dX6_uses_5 (by decide) (fun c_1 => ?_) (fun c_1 => ?_)
  · refine lv_iconst (v := 0) hx hb dX6_uses_19 (by decide) ?_
    refine xx_check (E0 := eI) (vx_runS (As := [.int 0]) (rest := []) ⟨hx, hb, hml, hown, hts⟩ (c_X6_checkThere l hst D cA A false 0 (by decide)) (va_cwS 1 hts gX6_uses_X6_checkThere rfl rfl rfl (by decide +kernel) ⟨Nat.le_of_ble_eq_true rfl, Nat.le_of_ble_eq_true rfl⟩) (xPXS hK tK.blind (fun U hU hW => hX.2.at hS (fun _ h => h) hU hW) trivial) rfl rfl hl.1 rfl (lv_room (Nat.le_of_ble_eq_true rfl)) dX6_uses_20 ⟨Nat.le_of_ble_eq_true rfl, Nat.le_of_ble_eq_true rfl⟩) hS (fun b_2 ce q9 H1 z1 k1 hS1 g1 g2 g3 => ?_) (fun b_2 => ?_)
    · have hk9 : kFo nC p1 p2 = 1 := by simp [kFo, c_1]
      exact vx_out (fun x hx => (ht x hx).elim) hlocks g1 g2 g3 (fun t ht9 _ => ⟨by rw [hk9]; decide, by rw [hk9] <;> rfl, by rw [ht9]; exact hCS0.same (fun q h1 _ => k1 q h1), hS1.F ht9⟩) hS1.2.2 (Nat.le_of_ble_eq_true rfl) (Nat.le_of_ble_eq_true rfl)
    · exact absurd b_2 (by decide)
  · refine lv_iload_n hx hb dX6_uses_8 rfl (lv_at hl 2 rfl) ?_
    refine xr_call (va_runS (As := [.int p2]) (rest := []) ⟨hx, hb, hml, hown, hts⟩ (c_X6_isSetting l D cA p2) (va_cwS 1 hts gX6_uses_X6_isSetting rfl rfl rfl (by decide +kernel) ⟨Nat.le_of_ble_eq_true rfl, Nat.le_of_ble_eq_true rfl⟩) (xPS hK trivial) rfl rfl hl.1 rfl (lv_room (Nat.le_of_ble_eq_true rfl)) dX6_uses_9 ⟨Nat.le_of_ble_eq_true rfl, Nat.le_of_ble_eq_true rfl⟩) ?_
    refine xb_eq (tgt := 19) hx hb dX6_uses_12 (by decide) (fun c_3 => ?_) (fun c_3 => ?_)
    · refine lv_iconst (v := 0) hx hb dX6_uses_19 (by decide) ?_
      refine xx_check (E0 := eI) (vx_runS (As := [.int 0]) (rest := []) ⟨hx, hb, hml, hown, hts⟩ (c_X6_checkThere l hst D cA A false 0 (by decide)) (va_cwS 1 hts gX6_uses_X6_checkThere rfl rfl rfl (by decide +kernel) ⟨Nat.le_of_ble_eq_true rfl, Nat.le_of_ble_eq_true rfl⟩) (xPXS hK tK.blind (fun U hU hW => hX.2.at hS (fun _ h => h) hU hW) trivial) rfl rfl hl.1 rfl (lv_room (Nat.le_of_ble_eq_true rfl)) dX6_uses_20 ⟨Nat.le_of_ble_eq_true rfl, Nat.le_of_ble_eq_true rfl⟩) hS (fun b_4 ce q9 H1 z1 k1 hS1 g1 g2 g3 => ?_) (fun b_4 => ?_)
      · have hk9 : kFo nC p1 p2 = 1 := by simp [kFo, c_1, c_3]
        exact vx_out (fun x hx => (ht x hx).elim) hlocks g1 g2 g3 (fun t ht9 _ => ⟨by rw [hk9]; decide, by rw [hk9] <;> rfl, by rw [ht9]; exact hCS0.same (fun q h1 _ => k1 q h1), hS1.F ht9⟩) hS1.2.2 (Nat.le_of_ble_eq_true rfl) (Nat.le_of_ble_eq_true rfl)
      · exact absurd b_4 (by decide)
    · refine lv_iconst (v := 1) hx hb dX6_uses_15 (by decide) ?_
      refine lv_goto (tgt := 20) hx hb dX6_uses_16 (by decide) ?_
      refine xx_check (E0 := eI) (vx_runS (As := [.int 1]) (rest := []) ⟨hx, hb, hml, hown, hts⟩ (c_X6_checkThere l hst D cA A true 1 (by decide)) (va_cwS 1 hts gX6_uses_X6_checkThere rfl rfl rfl (by decide +kernel) ⟨Nat.le_of_ble_eq_true rfl, Nat.le_of_ble_eq_true rfl⟩) (xPXS hK tK.blind (fun U hU hW => hX.2.at hS (fun _ h => h) hU hW) trivial) rfl rfl hl.1 rfl (lv_room (Nat.le_of_ble_eq_true rfl)) dX6_uses_20 ⟨Nat.le_of_ble_eq_true rfl, Nat.le_of_ble_eq_true rfl⟩) hS (fun b_5 ce q9 H1 z1 k1 hS1 g1 g2 g3 => ?_) (fun b_5 => ?_)
      · exact absurd b_5 (by decide)
      · have _b_5 := b_5
        obtain ⟨ip1, hip1, ep1⟩ := okN_of (n := nC) (v := p1) (by omega) (by have h9 := c_1; (try simp only [Bool.and_eq_true] at h9); simp [h9])
        subst ep1
        obtain ⟨ip2, hip2, ep2⟩ := okS_of (v := p2) (by have h9 := c_3; (try simp only [Bool.and_eq_true] at h9); simp [h9])
        subst ep2
        refine lv_aload_n hx hb dX6_uses_23 rfl (lv_at hl 0 rfl) ?_
        refine lv_iload_n hx hb dX6_uses_24 rfl (lv_at hl 1 rfl) ?_
        refine lv_iload_n hx hb dX6_uses_25 rfl (lv_at hl 2 rfl) ?_
        refine xw_calln (va_runV (As := [.int (nI ip1), .int (nI ip2)]) (rest := []) ⟨hx, hb, hml, hown, hts⟩ (c_X6_ask l D cA lab nm rf f nC nL nV hi0 A hl9 ip1 ip2 (by omega) (by omega)) (cwV 2 hts gX6_uses_X6_ask rfl rfl rfl (by decide +kernel) ⟨Nat.le_of_ble_eq_true rfl, Nat.le_of_ble_eq_true rfl⟩) (xPV hK hT rfl ⟨hV, hIQ⟩) rfl rfl hl.1 rfl (lv_room (Nat.le_of_ble_eq_true rfl)) dX6_uses_26 ⟨Nat.le_of_ble_eq_true rfl, Nat.le_of_ble_eq_true rfl⟩) hS (fun q _ h => hA9 q h) (fun q h => hA9 q h) (fun H locs hJ z9 q9 hS => ?_)
        obtain ⟨hV, uw6, kn6, oc6, fa6, g6, hQ6, eN6, eS6⟩ := hJ
        have hIQ : IQ0 D cA nm H := ⟨_, some _, _, _, _, _, _, _, _, hQ6.1.1, hQ6.2⟩
        have hCS0 : CS D cA A (nm 12 0) (nm 0 0) f nC nL nV H := ⟨lab, nm, rf, hV, hl9, hIQ, rfl, rfl⟩
        have hI9 := hV
        obtain ⟨hT, ⟨mcC, dC, capC, fC, hOC, hQC, hnC, hcC, hfC, -⟩, ⟨mcL, dL, capL, fL, hOL, hQL, hnL, hcL, hfL, -⟩, ⟨mcV, dV, capV, fV, hOV, hQV, hnV, hcV, hfV, -⟩, hC, hL, hHo, hRo, hCh, hRl, hEn⟩ := hI9
        have hT6 : akT (cvE f ip1 none nL ip2) = oc6 := (ak_oc eN6 eS6).symm
        refine lv_aload_n hx hb dX6_uses_29 rfl (lv_at hl 0 rfl) ?_
        refine x_get (v := .ref (nm 9 0)) hx hb hts h_X6 hown hK hT rfl 3 (by decide) (hts (.fieldLink RX6 25 "ConfigBeacon" "inquiry" "LConfigBeacon$Inquiry;") (by decide +kernel)) (fun _ h => h) rfl dX6_uses_30 ?_
        refine x_getN (v := .int ((cvE f ip1 none nL ip2).1.1)) hx hb hts h_X3 hown hK hQ6.1.1 rfl 4 (by decide) (va_Nw.use rfl (hK.2.2.1 ("ConfigBeacon", 230, "ConfigBeacon$Inquiry", "looked", "I") (by decide))) (fun _ h => h) rfl dX6_uses_33 ?_
        refine vx_ret ?_
        exact xw_iret hx hb hr hlocks hS ⟨(by simp [kFo, ix_nI (show ip1 < 65536 by omega), ix_nI (show ip2 < 65536 by omega), hT6, c_1, c_3]), (by rw [ix_nI (show ip1 < 65536 by omega), ix_nI (show ip2 < 65536 by omega)]), hCS0⟩ (Nat.le_of_ble_eq_true rfl) (Nat.le_of_ble_eq_true rfl) dX6_uses_36
set_option maxHeartbeats 4000000 in
set_option maxRecDepth 100000 in
theorem c_X6_statusAt (l : Launch) (hst : l.stackTraces = false) (D : va_G) (cA : Nat → ClassId) (lab : Nat → Nat) (nm : Nat → Nat → Nat) (rf : Nat → Nat → Option Nat) (f : Nat → Nat → Int32) (nC nL nV : Nat) (hi : CRi f nC nL nV) (A : Nat → Prop) (hl9 : CRl A lab nm rf nC nL) (H9 : Heap) (p1 : Int32) (p2 : Int32) (p3 : Int32) : vx_Met l yX6_statusAt wsX6_statusAt (rmK 41 3 18) (xPX D cA (fun U => pK A (nm 12 0) U) [.ref (nm 0 0), .int p1, .int p2, .int p3] (fun H => H = H9 ∧ CRv D cA lab nm rf f nC nL nV H ∧ IQ0 D cA nm H)) (xW (pJ (kAt nC nV p1 p2 p3) (some (.int (akT (akE (mS f) (ix p2) (some (ix p1)) nL (ix p3))))) (CS D cA A (nm 12 0) (nm 0 0) f nC nL nV)) A) (xT (kAt nC nV p1 p2 p3) (fun k => eI) (CS D cA A (nm 12 0) (nm 0 0) f nC nL nV) A) 3 18 A := by
  refine vx_ofW (cc := cX6_statusAt) (maxL := 4) (ret := (some .int)) (by decide) rfl ?_
  intro p e s m args below meth c s₁ B hml ht hv
  obtain ⟨rfl, ⟨hK, hX⟩, hI⟩ := hv
  have hx := B.exec
  have hb := B.bytes
  have hr := B.returns
  have hts := atoms_spec (ws := wsX6_statusAt) B.pre
  have hown : s.vm.findClass RX6 = some m.cls := findClass_of_methodNamed B.named
  have hlocks := B.notSynchronized
  have hl := lv_entry ([.ref (nm 0 0), .int p1, .int p2, .int p3]) (n := 4) (Nat.le_of_ble_eq_true rfl)
  rw [lg_entry_eq]
  generalize (lg_sl ([.ref (nm 0 0), .int p1, .int p2, .int p3]) ++ List.replicate (4 - (lg_sl ([.ref (nm 0 0), .int p1, .int p2, .int p3])).length) Slot.unset).toArray = ls at hl ⊢
  have hl : lv_has ls 4 [(0, .ref (nm 0 0)), (1, .int p1), (2, .int p2), (3, .int p3)] := hl
  have h_X0 : ∀ w ∈ wsX00, w ∈ wsX6_statusAt := fun _ h => List.mem_cons_of_mem _ (List.mem_append_left _ (List.mem_append_left _ (List.mem_append_left _ (List.mem_append_right _ h))))
  have h_X1 : ∀ w ∈ wsX10, w ∈ wsX6_statusAt := fun _ h => List.mem_cons_of_mem _ (List.mem_append_left _ (List.mem_append_right _ h))
  have h_X2 : ∀ w ∈ wsX20, w ∈ wsX6_statusAt := fun _ h => List.mem_cons_of_mem _ (List.mem_append_left _ (List.mem_append_left _ (List.mem_append_left _ (List.mem_append_left _ (List.mem_append_left _ (List.mem_append_right _ h))))))
  have h_X3 : ∀ w ∈ wsX30, w ∈ wsX6_statusAt := fun _ h => List.mem_cons_of_mem _ (List.mem_append_left _ (List.mem_append_left _ (List.mem_append_left _ (List.mem_append_left _ (List.mem_append_left _ (List.mem_append_left _ (List.mem_append_left _ (List.mem_append_right _ h))))))))
  have h_X4 : ∀ w ∈ wsX40, w ∈ wsX6_statusAt := fun _ h => List.mem_cons_of_mem _ (List.mem_append_left _ (List.mem_append_left _ (List.mem_append_left _ (List.mem_append_left _ (List.mem_append_right _ h)))))
  have h_X5 : ∀ w ∈ wsX50, w ∈ wsX6_statusAt := fun _ h => List.mem_cons_of_mem _ (List.mem_append_left _ (List.mem_append_left _ (List.mem_append_right _ h)))
  have h_X6 : ∀ w ∈ wsX60, w ∈ wsX6_statusAt := fun _ h => List.mem_cons_of_mem _ (List.mem_append_left _ (List.mem_append_left _ (List.mem_append_left _ (List.mem_append_left _ (List.mem_append_left _ (List.mem_append_left _ (List.mem_append_left _ (List.mem_append_left _ (List.mem_append_right _ h)))))))))
  have h_Jx4a65c : ∀ w ∈ wsJx4a65c0, w ∈ wsX6_statusAt := fun _ h => List.mem_cons_of_mem _ (List.mem_append_left _ (List.mem_append_left _ (List.mem_append_left _ (List.mem_append_left _ (List.mem_append_left _ (List.mem_append_left _ (List.mem_append_right _ h)))))))
  obtain ⟨hH9, hI, hIQ⟩ := hI
  subst hH9
  have hV := hI
  have hi0 := hi
  obtain ⟨hT, ⟨mcC, dC, capC, fC, hOC, hQC, hnC, hcC, hfC, -⟩, ⟨mcL, dL, capL, fL, hOL, hQL, hnL, hcL, hfL, -⟩, ⟨mcV, dV, capV, fV, hOV, hQV, hnV, hcV, hfV, -⟩, hC, hL, hHo, hRo, hCh, hRl, hEn⟩ := hI
  obtain ⟨b1, b2, b3, iSel, iGd, iCur, iZero, iLk, iLkA, iLkB⟩ := hi
  have hS : va_S A s.heap s.heap [] := va_S.rf
  have hCS0 : CS D cA A (nm 12 0) (nm 0 0) f nC nL nV s.heap := ⟨lab, nm, rf, hV, hl9, hIQ, rfl, rfl⟩
  have hA9 : ∀ q, A9 nm q → A q := fun q h => hl9.1 q (by rcases h with h | h <;> rw [h] <;> first | (rw [hl9.2.2.2.2.2.1]; omega) | (rw [hl9.2.2.2.2.2.2.1]; omega))
  refine lv_aload_n hx hb dX6_statusAt_0 rfl (lv_at hl 0 rfl) ?_
  refine lv_iload_n hx hb dX6_statusAt_1 rfl (lv_at hl 1 rfl) ?_
  refine xr_call (va_runV (As := [.int p1]) (rest := []) ⟨hx, hb, hml, hown, hts⟩ (c_X6_isVersion l D cA lab nm rf f nC nL nV (⟨b1, b2, b3, iSel, iGd, iCur, iZero, iLk, iLkA, iLkB⟩) p1) (cwV 1 hts gX6_statusAt_X6_isVersion rfl rfl rfl (by decide +kernel) ⟨Nat.le_of_ble_eq_true rfl, Nat.le_of_ble_eq_true rfl⟩) (xPV hK hT rfl hV) rfl rfl hl.1 rfl (lv_room (Nat.le_of_ble_eq_true rfl)) dX6_statusAt_2 ⟨Nat.le_of_ble_eq_true rfl, Nat.le_of_ble_eq_true rfl⟩) ?_
  refine xb_eq (tgt := 27) hx hb dX6_statusAt_5 (by decide) (fun c_1 => ?_) (fun c_1 => ?_)
  · refine lv_iconst (v := 0) hx hb dX6_statusAt_27 (by decide) ?_
    refine xx_check (E0 := eI) (vx_runS (As := [.int 0]) (rest := []) ⟨hx, hb, hml, hown, hts⟩ (c_X6_checkThere l hst D cA A false 0 (by decide)) (va_cwS 1 hts gX6_statusAt_X6_checkThere rfl rfl rfl (by decide +kernel) ⟨Nat.le_of_ble_eq_true rfl, Nat.le_of_ble_eq_true rfl⟩) (xPXS hK tK.blind (fun U hU hW => hX.2.at hS (fun _ h => h) hU hW) trivial) rfl rfl hl.1 rfl (lv_room (Nat.le_of_ble_eq_true rfl)) dX6_statusAt_28 ⟨Nat.le_of_ble_eq_true rfl, Nat.le_of_ble_eq_true rfl⟩) hS (fun b_2 ce q9 H1 z1 k1 hS1 g1 g2 g3 => ?_) (fun b_2 => ?_)
    · have hk9 : kAt nC nV p1 p2 p3 = 1 := by simp [kAt, c_1]
      exact vx_out (fun x hx => (ht x hx).elim) hlocks g1 g2 g3 (fun t ht9 _ => ⟨by rw [hk9]; decide, by rw [hk9] <;> rfl, by rw [ht9]; exact hCS0.same (fun q h1 _ => k1 q h1), hS1.F ht9⟩) hS1.2.2 (Nat.le_of_ble_eq_true rfl) (Nat.le_of_ble_eq_true rfl)
    · exact absurd b_2 (by decide)
  · refine lv_aload_n hx hb dX6_statusAt_8 rfl (lv_at hl 0 rfl) ?_
    refine lv_iload_n hx hb dX6_statusAt_9 rfl (lv_at hl 2 rfl) ?_
    refine xr_call (va_runV (As := [.int p2]) (rest := []) ⟨hx, hb, hml, hown, hts⟩ (c_X6_isClient l D cA lab nm rf f nC nL nV (⟨b1, b2, b3, iSel, iGd, iCur, iZero, iLk, iLkA, iLkB⟩) p2) (cwV 1 hts gX6_statusAt_X6_isClient rfl rfl rfl (by decide +kernel) ⟨Nat.le_of_ble_eq_true rfl, Nat.le_of_ble_eq_true rfl⟩) (xPV hK hT rfl hV) rfl rfl hl.1 rfl (lv_room (Nat.le_of_ble_eq_true rfl)) dX6_statusAt_10 ⟨Nat.le_of_ble_eq_true rfl, Nat.le_of_ble_eq_true rfl⟩) ?_
    refine xb_eq (tgt := 27) hx hb dX6_statusAt_13 (by decide) (fun c_3 => ?_) (fun c_3 => ?_)
    · refine lv_iconst (v := 0) hx hb dX6_statusAt_27 (by decide) ?_
      refine xx_check (E0 := eI) (vx_runS (As := [.int 0]) (rest := []) ⟨hx, hb, hml, hown, hts⟩ (c_X6_checkThere l hst D cA A false 0 (by decide)) (va_cwS 1 hts gX6_statusAt_X6_checkThere rfl rfl rfl (by decide +kernel) ⟨Nat.le_of_ble_eq_true rfl, Nat.le_of_ble_eq_true rfl⟩) (xPXS hK tK.blind (fun U hU hW => hX.2.at hS (fun _ h => h) hU hW) trivial) rfl rfl hl.1 rfl (lv_room (Nat.le_of_ble_eq_true rfl)) dX6_statusAt_28 ⟨Nat.le_of_ble_eq_true rfl, Nat.le_of_ble_eq_true rfl⟩) hS (fun b_4 ce q9 H1 z1 k1 hS1 g1 g2 g3 => ?_) (fun b_4 => ?_)
      · have hk9 : kAt nC nV p1 p2 p3 = 1 := by simp [kAt, c_1, c_3]
        exact vx_out (fun x hx => (ht x hx).elim) hlocks g1 g2 g3 (fun t ht9 _ => ⟨by rw [hk9]; decide, by rw [hk9] <;> rfl, by rw [ht9]; exact hCS0.same (fun q h1 _ => k1 q h1), hS1.F ht9⟩) hS1.2.2 (Nat.le_of_ble_eq_true rfl) (Nat.le_of_ble_eq_true rfl)
      · exact absurd b_4 (by decide)
    · refine lv_iload_n hx hb dX6_statusAt_16 rfl (lv_at hl 3 rfl) ?_
      refine xr_call (va_runS (As := [.int p3]) (rest := []) ⟨hx, hb, hml, hown, hts⟩ (c_X6_isSetting l D cA p3) (va_cwS 1 hts gX6_statusAt_X6_isSetting rfl rfl rfl (by decide +kernel) ⟨Nat.le_of_ble_eq_true rfl, Nat.le_of_ble_eq_true rfl⟩) (xPS hK trivial) rfl rfl hl.1 rfl (lv_room (Nat.le_of_ble_eq_true rfl)) dX6_statusAt_17 ⟨Nat.le_of_ble_eq_true rfl, Nat.le_of_ble_eq_true rfl⟩) ?_
      refine xb_eq (tgt := 27) hx hb dX6_statusAt_20 (by decide) (fun c_5 => ?_) (fun c_5 => ?_)
      · refine lv_iconst (v := 0) hx hb dX6_statusAt_27 (by decide) ?_
        refine xx_check (E0 := eI) (vx_runS (As := [.int 0]) (rest := []) ⟨hx, hb, hml, hown, hts⟩ (c_X6_checkThere l hst D cA A false 0 (by decide)) (va_cwS 1 hts gX6_statusAt_X6_checkThere rfl rfl rfl (by decide +kernel) ⟨Nat.le_of_ble_eq_true rfl, Nat.le_of_ble_eq_true rfl⟩) (xPXS hK tK.blind (fun U hU hW => hX.2.at hS (fun _ h => h) hU hW) trivial) rfl rfl hl.1 rfl (lv_room (Nat.le_of_ble_eq_true rfl)) dX6_statusAt_28 ⟨Nat.le_of_ble_eq_true rfl, Nat.le_of_ble_eq_true rfl⟩) hS (fun b_6 ce q9 H1 z1 k1 hS1 g1 g2 g3 => ?_) (fun b_6 => ?_)
        · have hk9 : kAt nC nV p1 p2 p3 = 1 := by simp [kAt, c_1, c_3, c_5]
          exact vx_out (fun x hx => (ht x hx).elim) hlocks g1 g2 g3 (fun t ht9 _ => ⟨by rw [hk9]; decide, by rw [hk9] <;> rfl, by rw [ht9]; exact hCS0.same (fun q h1 _ => k1 q h1), hS1.F ht9⟩) hS1.2.2 (Nat.le_of_ble_eq_true rfl) (Nat.le_of_ble_eq_true rfl)
        · exact absurd b_6 (by decide)
      · refine lv_iconst (v := 1) hx hb dX6_statusAt_23 (by decide) ?_
        refine lv_goto (tgt := 28) hx hb dX6_statusAt_24 (by decide) ?_
        refine xx_check (E0 := eI) (vx_runS (As := [.int 1]) (rest := []) ⟨hx, hb, hml, hown, hts⟩ (c_X6_checkThere l hst D cA A true 1 (by decide)) (va_cwS 1 hts gX6_statusAt_X6_checkThere rfl rfl rfl (by decide +kernel) ⟨Nat.le_of_ble_eq_true rfl, Nat.le_of_ble_eq_true rfl⟩) (xPXS hK tK.blind (fun U hU hW => hX.2.at hS (fun _ h => h) hU hW) trivial) rfl rfl hl.1 rfl (lv_room (Nat.le_of_ble_eq_true rfl)) dX6_statusAt_28 ⟨Nat.le_of_ble_eq_true rfl, Nat.le_of_ble_eq_true rfl⟩) hS (fun b_7 ce q9 H1 z1 k1 hS1 g1 g2 g3 => ?_) (fun b_7 => ?_)
        · exact absurd b_7 (by decide)
        · have _b_7 := b_7
          obtain ⟨ip1, hip1, ep1⟩ := okN_of (n := (nV + 1)) (v := p1) (by omega) (by have h9 := c_1; (try simp only [Bool.and_eq_true] at h9); simp [h9])
          subst ep1
          obtain ⟨ip2, hip2, ep2⟩ := okN_of (n := nC) (v := p2) (by omega) (by have h9 := c_3; (try simp only [Bool.and_eq_true] at h9); simp [h9])
          subst ep2
          obtain ⟨ip3, hip3, ep3⟩ := okS_of (v := p3) (by have h9 := c_5; (try simp only [Bool.and_eq_true] at h9); simp [h9])
          subst ep3
          refine lv_aload_n hx hb dX6_statusAt_31 rfl (lv_at hl 0 rfl) ?_
          refine lv_iload_n hx hb dX6_statusAt_32 rfl (lv_at hl 1 rfl) ?_
          refine lv_iload_n hx hb dX6_statusAt_33 rfl (lv_at hl 2 rfl) ?_
          refine lv_iload_n hx hb dX6_statusAt_34 rfl (lv_at hl 3 rfl) ?_
          refine xw_calln (va_runV (As := [.int (nI ip1), .int (nI ip2), .int (nI ip3)]) (rest := []) ⟨hx, hb, hml, hown, hts⟩ (c_X6_askAt l D cA lab nm rf f nC nL nV hi0 A hl9 ip2 ip3 (by omega) (by omega) ip1 (by omega)) (cwV 3 hts gX6_statusAt_X6_askAt rfl rfl rfl (by decide +kernel) ⟨Nat.le_of_ble_eq_true rfl, Nat.le_of_ble_eq_true rfl⟩) (xPV hK hT rfl ⟨hV, hIQ⟩) rfl rfl hl.1 rfl (lv_room (Nat.le_of_ble_eq_true rfl)) dX6_statusAt_35 ⟨Nat.le_of_ble_eq_true rfl, Nat.le_of_ble_eq_true rfl⟩) hS (fun q _ h => hA9 q h) (fun q h => hA9 q h) (fun H locs hJ z9 q9 hS => ?_)
          obtain ⟨hV, uw8, kn8, oc8, fa8, g8, hQ8, eN8, eS8⟩ := hJ
          have hIQ : IQ0 D cA nm H := ⟨_, some _, _, _, _, _, _, _, _, hQ8.1.1, hQ8.2⟩
          have hCS0 : CS D cA A (nm 12 0) (nm 0 0) f nC nL nV H := ⟨lab, nm, rf, hV, hl9, hIQ, rfl, rfl⟩
          have hI9 := hV
          obtain ⟨hT, ⟨mcC, dC, capC, fC, hOC, hQC, hnC, hcC, hfC, -⟩, ⟨mcL, dL, capL, fL, hOL, hQL, hnL, hcL, hfL, -⟩, ⟨mcV, dV, capV, fV, hOV, hQV, hnV, hcV, hfV, -⟩, hC, hL, hHo, hRo, hCh, hRl, hEn⟩ := hI9
          have hT8 : akT (cvE f ip2 (some ip1) nL ip3) = oc8 := (ak_oc eN8 eS8).symm
          refine lv_aload_n hx hb dX6_statusAt_38 rfl (lv_at hl 0 rfl) ?_
          refine x_get (v := .ref (nm 9 0)) hx hb hts h_X6 hown hK hT rfl 3 (by decide) (hts (.fieldLink RX6 25 "ConfigBeacon" "inquiry" "LConfigBeacon$Inquiry;") (by decide +kernel)) (fun _ h => h) rfl dX6_statusAt_39 ?_
          refine x_getN (v := .int oc8) hx hb hts h_X3 hown hK hQ8.1.1 rfl 7 (by decide) (va_Nw.use rfl (hK.2.2.1 ("ConfigBeacon", 210, "ConfigBeacon$Inquiry", "outcome", "I") (by decide))) (fun _ h => h) rfl dX6_statusAt_42 ?_
          refine vx_ret ?_
          exact xw_iret hx hb hr hlocks hS ⟨(by simp [kAt, ix_nI (show ip1 < 65536 by omega), ix_nI (show ip2 < 65536 by omega), ix_nI (show ip3 < 65536 by omega), hT8, c_1, c_3, c_5]), (by rw [ix_nI (show ip1 < 65536 by omega), ix_nI (show ip2 < 65536 by omega), ix_nI (show ip3 < 65536 by omega)]; exact congrArg (fun z => some (Value.int z)) (ak_oc eN8 eS8)), hCS0⟩ (Nat.le_of_ble_eq_true rfl) (Nat.le_of_ble_eq_true rfl) dX6_statusAt_45
set_option maxHeartbeats 4000000 in
set_option maxRecDepth 100000 in
theorem c_X6_value (l : Launch) (hst : l.stackTraces = false) (D : va_G) (cA : Nat → ClassId) (lab : Nat → Nat) (nm : Nat → Nat → Nat) (rf : Nat → Nat → Option Nat) (f : Nat → Nat → Int32) (nC nL nV : Nat) (hi : CRi f nC nL nV) (A : Nat → Prop) (hl9 : CRl A lab nm rf nC nL) (H9 : Heap) (p1 : Int32) (p2 : Int32) : vx_Met l yX6_value wsX6_value (rmK 41 3 18) (xPX D cA (fun U => pK A (nm 12 0) U) [.ref (nm 0 0), .int p1, .int p2] (fun H => H = H9 ∧ CRv D cA lab nm rf f nC nL nV H ∧ IQ0 D cA nm H)) (xW (pJ (kVa (mS f) nL nC p1 p2) (some (.long (akV (akE (mS f) (ix p1) none nL (ix p2)) (ix p2)))) (CS D cA A (nm 12 0) (nm 0 0) f nC nL nV)) A) (xT (kVa (mS f) nL nC p1 p2) (fun k => (if k = 1 then eI else eS)) (CS D cA A (nm 12 0) (nm 0 0) f nC nL nV) A) 3 18 A := by
  refine vx_ofW (cc := cX6_value) (maxL := 3) (ret := (some .long)) (by decide) rfl ?_
  intro p e s m args below meth c s₁ B hml ht hv
  obtain ⟨rfl, ⟨hK, hX⟩, hI⟩ := hv
  have hx := B.exec
  have hb := B.bytes
  have hr := B.returns
  have hts := atoms_spec (ws := wsX6_value) B.pre
  have hown : s.vm.findClass RX6 = some m.cls := findClass_of_methodNamed B.named
  have hlocks := B.notSynchronized
  have hl := lv_entry ([.ref (nm 0 0), .int p1, .int p2]) (n := 3) (Nat.le_of_ble_eq_true rfl)
  rw [lg_entry_eq]
  generalize (lg_sl ([.ref (nm 0 0), .int p1, .int p2]) ++ List.replicate (3 - (lg_sl ([.ref (nm 0 0), .int p1, .int p2])).length) Slot.unset).toArray = ls at hl ⊢
  have hl : lv_has ls 3 [(0, .ref (nm 0 0)), (1, .int p1), (2, .int p2)] := hl
  have h_X0 : ∀ w ∈ wsX00, w ∈ wsX6_value := fun _ h => List.mem_cons_of_mem _ (List.mem_append_left _ (List.mem_append_left _ (List.mem_append_left _ (List.mem_append_left _ (List.mem_append_right _ h)))))
  have h_X1 : ∀ w ∈ wsX10, w ∈ wsX6_value := fun _ h => List.mem_cons_of_mem _ (List.mem_append_left _ (List.mem_append_left _ (List.mem_append_right _ h)))
  have h_X2 : ∀ w ∈ wsX20, w ∈ wsX6_value := fun _ h => List.mem_cons_of_mem _ (List.mem_append_left _ (List.mem_append_left _ (List.mem_append_left _ (List.mem_append_left _ (List.mem_append_left _ (List.mem_append_left _ (List.mem_append_right _ h)))))))
  have h_X3 : ∀ w ∈ wsX30, w ∈ wsX6_value := fun _ h => List.mem_cons_of_mem _ (List.mem_append_left _ (List.mem_append_left _ (List.mem_append_left _ (List.mem_append_left _ (List.mem_append_left _ (List.mem_append_left _ (List.mem_append_left _ (List.mem_append_left _ (List.mem_append_right _ h)))))))))
  have h_X4 : ∀ w ∈ wsX40, w ∈ wsX6_value := fun _ h => List.mem_cons_of_mem _ (List.mem_append_left _ (List.mem_append_left _ (List.mem_append_left _ (List.mem_append_left _ (List.mem_append_left _ (List.mem_append_right _ h))))))
  have h_X5 : ∀ w ∈ wsX50, w ∈ wsX6_value := fun _ h => List.mem_cons_of_mem _ (List.mem_append_left _ (List.mem_append_left _ (List.mem_append_left _ (List.mem_append_right _ h))))
  have h_X6 : ∀ w ∈ wsX60, w ∈ wsX6_value := fun _ h => List.mem_cons_of_mem _ (List.mem_append_left _ (List.mem_append_left _ (List.mem_append_left _ (List.mem_append_left _ (List.mem_append_left _ (List.mem_append_left _ (List.mem_append_left _ (List.mem_append_left _ (List.mem_append_left _ (List.mem_append_right _ h))))))))))
  have h_Jx4a65c : ∀ w ∈ wsJx4a65c0, w ∈ wsX6_value := fun _ h => List.mem_cons_of_mem _ (List.mem_append_left _ (List.mem_append_left _ (List.mem_append_left _ (List.mem_append_left _ (List.mem_append_left _ (List.mem_append_left _ (List.mem_append_left _ (List.mem_append_right _ h))))))))
  obtain ⟨hH9, hI, hIQ⟩ := hI
  subst hH9
  have hV := hI
  have hi0 := hi
  obtain ⟨hT, ⟨mcC, dC, capC, fC, hOC, hQC, hnC, hcC, hfC, -⟩, ⟨mcL, dL, capL, fL, hOL, hQL, hnL, hcL, hfL, -⟩, ⟨mcV, dV, capV, fV, hOV, hQV, hnV, hcV, hfV, -⟩, hC, hL, hHo, hRo, hCh, hRl, hEn⟩ := hI
  obtain ⟨b1, b2, b3, iSel, iGd, iCur, iZero, iLk, iLkA, iLkB⟩ := hi
  have hS : va_S A s.heap s.heap [] := va_S.rf
  have hCS0 : CS D cA A (nm 12 0) (nm 0 0) f nC nL nV s.heap := ⟨lab, nm, rf, hV, hl9, hIQ, rfl, rfl⟩
  have hA9 : ∀ q, A9 nm q → A q := fun q h => hl9.1 q (by rcases h with h | h <;> rw [h] <;> first | (rw [hl9.2.2.2.2.2.1]; omega) | (rw [hl9.2.2.2.2.2.2.1]; omega))
  refine lv_aload_n hx hb dX6_value_0 rfl (lv_at hl 0 rfl) ?_
  refine lv_iload_n hx hb dX6_value_1 rfl (lv_at hl 1 rfl) ?_
  refine xr_call (va_runV (As := [.int p1]) (rest := []) ⟨hx, hb, hml, hown, hts⟩ (c_X6_isClient l D cA lab nm rf f nC nL nV (⟨b1, b2, b3, iSel, iGd, iCur, iZero, iLk, iLkA, iLkB⟩) p1) (cwV 1 hts gX6_value_X6_isClient rfl rfl rfl (by decide +kernel) ⟨Nat.le_of_ble_eq_true rfl, Nat.le_of_ble_eq_true rfl⟩) (xPV hK hT rfl hV) rfl rfl hl.1 rfl (lv_room (Nat.le_of_ble_eq_true rfl)) dX6_value_2 ⟨Nat.le_of_ble_eq_true rfl, Nat.le_of_ble_eq_true rfl⟩) ?_
  refine xb_eq (tgt := 19) hx hb dX6_value_5 (by decide) (fun c_1 => ?_) (fun c_1 => ?_)
  · refine lv_iconst (v := 0) hx hb dX6_value_19 (by decide) ?_
    refine xx_check (E0 := eI) (vx_runS (As := [.int 0]) (rest := []) ⟨hx, hb, hml, hown, hts⟩ (c_X6_checkThere l hst D cA A false 0 (by decide)) (va_cwS 1 hts gX6_value_X6_checkThere rfl rfl rfl (by decide +kernel) ⟨Nat.le_of_ble_eq_true rfl, Nat.le_of_ble_eq_true rfl⟩) (xPXS hK tK.blind (fun U hU hW => hX.2.at hS (fun _ h => h) hU hW) trivial) rfl rfl hl.1 rfl (lv_room (Nat.le_of_ble_eq_true rfl)) dX6_value_20 ⟨Nat.le_of_ble_eq_true rfl, Nat.le_of_ble_eq_true rfl⟩) hS (fun b_2 ce q9 H1 z1 k1 hS1 g1 g2 g3 => ?_) (fun b_2 => ?_)
    · have hk9 : kVa (mS f) nL nC p1 p2 = 1 := by simp [kVa, kFo, c_1]
      exact vx_out (fun x hx => (ht x hx).elim) hlocks g1 g2 g3 (fun t ht9 _ => ⟨by rw [hk9]; decide, by rw [hk9] <;> rfl, by rw [ht9]; exact hCS0.same (fun q h1 _ => k1 q h1), hS1.F ht9⟩) hS1.2.2 (Nat.le_of_ble_eq_true rfl) (Nat.le_of_ble_eq_true rfl)
    · exact absurd b_2 (by decide)
  · refine lv_iload_n hx hb dX6_value_8 rfl (lv_at hl 2 rfl) ?_
    refine xr_call (va_runS (As := [.int p2]) (rest := []) ⟨hx, hb, hml, hown, hts⟩ (c_X6_isSetting l D cA p2) (va_cwS 1 hts gX6_value_X6_isSetting rfl rfl rfl (by decide +kernel) ⟨Nat.le_of_ble_eq_true rfl, Nat.le_of_ble_eq_true rfl⟩) (xPS hK trivial) rfl rfl hl.1 rfl (lv_room (Nat.le_of_ble_eq_true rfl)) dX6_value_9 ⟨Nat.le_of_ble_eq_true rfl, Nat.le_of_ble_eq_true rfl⟩) ?_
    refine xb_eq (tgt := 19) hx hb dX6_value_12 (by decide) (fun c_3 => ?_) (fun c_3 => ?_)
    · refine lv_iconst (v := 0) hx hb dX6_value_19 (by decide) ?_
      refine xx_check (E0 := eI) (vx_runS (As := [.int 0]) (rest := []) ⟨hx, hb, hml, hown, hts⟩ (c_X6_checkThere l hst D cA A false 0 (by decide)) (va_cwS 1 hts gX6_value_X6_checkThere rfl rfl rfl (by decide +kernel) ⟨Nat.le_of_ble_eq_true rfl, Nat.le_of_ble_eq_true rfl⟩) (xPXS hK tK.blind (fun U hU hW => hX.2.at hS (fun _ h => h) hU hW) trivial) rfl rfl hl.1 rfl (lv_room (Nat.le_of_ble_eq_true rfl)) dX6_value_20 ⟨Nat.le_of_ble_eq_true rfl, Nat.le_of_ble_eq_true rfl⟩) hS (fun b_4 ce q9 H1 z1 k1 hS1 g1 g2 g3 => ?_) (fun b_4 => ?_)
      · have hk9 : kVa (mS f) nL nC p1 p2 = 1 := by simp [kVa, kFo, c_1, c_3]
        exact vx_out (fun x hx => (ht x hx).elim) hlocks g1 g2 g3 (fun t ht9 _ => ⟨by rw [hk9]; decide, by rw [hk9] <;> rfl, by rw [ht9]; exact hCS0.same (fun q h1 _ => k1 q h1), hS1.F ht9⟩) hS1.2.2 (Nat.le_of_ble_eq_true rfl) (Nat.le_of_ble_eq_true rfl)
      · exact absurd b_4 (by decide)
    · refine lv_iconst (v := 1) hx hb dX6_value_15 (by decide) ?_
      refine lv_goto (tgt := 20) hx hb dX6_value_16 (by decide) ?_
      refine xx_check (E0 := eI) (vx_runS (As := [.int 1]) (rest := []) ⟨hx, hb, hml, hown, hts⟩ (c_X6_checkThere l hst D cA A true 1 (by decide)) (va_cwS 1 hts gX6_value_X6_checkThere rfl rfl rfl (by decide +kernel) ⟨Nat.le_of_ble_eq_true rfl, Nat.le_of_ble_eq_true rfl⟩) (xPXS hK tK.blind (fun U hU hW => hX.2.at hS (fun _ h => h) hU hW) trivial) rfl rfl hl.1 rfl (lv_room (Nat.le_of_ble_eq_true rfl)) dX6_value_20 ⟨Nat.le_of_ble_eq_true rfl, Nat.le_of_ble_eq_true rfl⟩) hS (fun b_5 ce q9 H1 z1 k1 hS1 g1 g2 g3 => ?_) (fun b_5 => ?_)
      · exact absurd b_5 (by decide)
      · have _b_5 := b_5
        obtain ⟨ip1, hip1, ep1⟩ := okN_of (n := nC) (v := p1) (by omega) (by have h9 := c_1; (try simp only [Bool.and_eq_true] at h9); simp [h9])
        subst ep1
        obtain ⟨ip2, hip2, ep2⟩ := okS_of (v := p2) (by have h9 := c_3; (try simp only [Bool.and_eq_true] at h9); simp [h9])
        subst ep2
        refine lv_aload_n hx hb dX6_value_23 rfl (lv_at hl 0 rfl) ?_
        refine lv_iload_n hx hb dX6_value_24 rfl (lv_at hl 1 rfl) ?_
        refine lv_iload_n hx hb dX6_value_25 rfl (lv_at hl 2 rfl) ?_
        refine xw_calln (va_runV (As := [.int (nI ip1), .int (nI ip2)]) (rest := []) ⟨hx, hb, hml, hown, hts⟩ (c_X6_ask l D cA lab nm rf f nC nL nV hi0 A hl9 ip1 ip2 (by omega) (by omega)) (cwV 2 hts gX6_value_X6_ask rfl rfl rfl (by decide +kernel) ⟨Nat.le_of_ble_eq_true rfl, Nat.le_of_ble_eq_true rfl⟩) (xPV hK hT rfl ⟨hV, hIQ⟩) rfl rfl hl.1 rfl (lv_room (Nat.le_of_ble_eq_true rfl)) dX6_value_26 ⟨Nat.le_of_ble_eq_true rfl, Nat.le_of_ble_eq_true rfl⟩) hS (fun q _ h => hA9 q h) (fun q h => hA9 q h) (fun H locs hJ z9 q9 hS => ?_)
        obtain ⟨hV, uw6, kn6, oc6, fa6, g6, hQ6, eN6, eS6⟩ := hJ
        have hIQ : IQ0 D cA nm H := ⟨_, some _, _, _, _, _, _, _, _, hQ6.1.1, hQ6.2⟩
        have hCS0 : CS D cA A (nm 12 0) (nm 0 0) f nC nL nV H := ⟨lab, nm, rf, hV, hl9, hIQ, rfl, rfl⟩
        have hI9 := hV
        obtain ⟨hT, ⟨mcC, dC, capC, fC, hOC, hQC, hnC, hcC, hfC, -⟩, ⟨mcL, dL, capL, fL, hOL, hQL, hnL, hcL, hfL, -⟩, ⟨mcV, dV, capV, fV, hOV, hQV, hnV, hcV, hfV, -⟩, hC, hL, hHo, hRo, hCh, hRl, hEn⟩ := hI9
        have hT6 : akT (cvE f ip1 none nL ip2) = oc6 := (ak_oc eN6 eS6).symm
        refine lv_aload_n hx hb dX6_value_29 rfl (lv_at hl 0 rfl) ?_
        refine x_get (v := .ref (nm 9 0)) hx hb hts h_X6 hown hK hT rfl 3 (by decide) (hts (.fieldLink RX6 25 "ConfigBeacon" "inquiry" "LConfigBeacon$Inquiry;") (by decide +kernel)) (fun _ h => h) rfl dX6_value_30 ?_
        refine x_getN (v := .int oc6) hx hb hts h_X3 hown hK hQ6.1.1 rfl 7 (by decide) (va_Nw.use rfl (hK.2.2.1 ("ConfigBeacon", 210, "ConfigBeacon$Inquiry", "outcome", "I") (by decide))) (fun _ h => h) rfl dX6_value_33 ?_
        refine lv_if_ne (tgt := 43) hx hb dX6_value_36 (by decide) (fun c_7 => ?_) (fun c_7 => ?_)
        · refine lv_iconst (v := 0) hx hb dX6_value_43 (by decide) ?_
          refine xx_check (E0 := eS) (vx_runS (As := [.int 0]) (rest := []) ⟨hx, hb, hml, hown, hts⟩ (c_X6_checkState l hst D cA A false 0 (by decide)) (va_cwS 1 hts gX6_value_X6_checkState rfl rfl rfl (by decide +kernel) ⟨Nat.le_of_ble_eq_true rfl, Nat.le_of_ble_eq_true rfl⟩) (xPXS hK tK.blind (fun U hU hW => hX.2.at hS (fun _ h => h) hU hW) trivial) rfl rfl hl.1 rfl (lv_room (Nat.le_of_ble_eq_true rfl)) dX6_value_44 ⟨Nat.le_of_ble_eq_true rfl, Nat.le_of_ble_eq_true rfl⟩) hS (fun b_8 ce q9 H1 z1 k1 hS1 g1 g2 g3 => ?_) (fun b_8 => ?_)
          · have hk9 : kVa (mS f) nL nC (nI ip1) (nI ip2) = 2 := by simp [kVa, kFo, ix_nI (show ip1 < 65536 by omega), ix_nI (show ip2 < 65536 by omega), hT6, c_1, c_3, c_7]
            exact vx_out (fun x hx => (ht x hx).elim) hlocks g1 g2 g3 (fun t ht9 _ => ⟨by rw [hk9]; decide, by rw [hk9] <;> rfl, by rw [ht9]; exact hCS0.same (fun q h1 _ => k1 q h1), hS1.F ht9⟩) hS1.2.2 (Nat.le_of_ble_eq_true rfl) (Nat.le_of_ble_eq_true rfl)
          · exact absurd b_8 (by decide)
        · refine lv_iconst (v := 1) hx hb dX6_value_39 (by decide) ?_
          refine lv_goto (tgt := 44) hx hb dX6_value_40 (by decide) ?_
          refine xx_check (E0 := eS) (vx_runS (As := [.int 1]) (rest := []) ⟨hx, hb, hml, hown, hts⟩ (c_X6_checkState l hst D cA A true 1 (by decide)) (va_cwS 1 hts gX6_value_X6_checkState rfl rfl rfl (by decide +kernel) ⟨Nat.le_of_ble_eq_true rfl, Nat.le_of_ble_eq_true rfl⟩) (xPXS hK tK.blind (fun U hU hW => hX.2.at hS (fun _ h => h) hU hW) trivial) rfl rfl hl.1 rfl (lv_room (Nat.le_of_ble_eq_true rfl)) dX6_value_44 ⟨Nat.le_of_ble_eq_true rfl, Nat.le_of_ble_eq_true rfl⟩) hS (fun b_9 ce q9 H1 z1 k1 hS1 g1 g2 g3 => ?_) (fun b_9 => ?_)
          · exact absurd b_9 (by decide)
          · have _b_9 := b_9
            refine lv_aload_n hx hb dX6_value_47 rfl (lv_at hl 0 rfl) ?_
            refine x_get (v := .ref (nm 9 0)) hx hb hts h_X6 hown hK hT rfl 3 (by decide) (hts (.fieldLink RX6 25 "ConfigBeacon" "inquiry" "LConfigBeacon$Inquiry;") (by decide +kernel)) (fun _ h => h) rfl dX6_value_48 ?_
            refine x_getN (v := .ref (nm 9 1)) hx hb hts h_X3 hown hK hQ6.1.1 rfl 0 (by decide) (va_Nw.use rfl (hK.2.2.1 ("ConfigBeacon", 213, "ConfigBeacon$Inquiry", "values", "[J") (by decide))) (fun _ h => h) rfl dX6_value_51 ?_
            refine lv_iload_n hx hb dX6_value_54 rfl (lv_at hl 2 rfl) ?_
            refine x_lald hx hb hK hQ6.2 ip2 rfl (by omega) (by decide) dX6_value_55 ?_
            refine vx_ret ?_
            exact xw_lret hx hb hr hlocks hS ⟨(by simp [kVa, kFo, ix_nI (show ip1 < 65536 by omega), ix_nI (show ip2 < 65536 by omega), hT6, c_1, c_3, c_7]), (by rw [ix_nI (show ip1 < 65536 by omega), ix_nI (show ip2 < 65536 by omega)]; exact congrArg (fun z => some (Value.long z)) (ak_val iGd (by omega) (fun v h => by cases h) (by omega) eN6 eS6 c_7)), hCS0⟩ (Nat.le_of_ble_eq_true rfl) (Nat.le_of_ble_eq_true rfl) dX6_value_56
set_option maxHeartbeats 4000000 in
set_option maxRecDepth 100000 in
theorem c_X6_valueAt (l : Launch) (hst : l.stackTraces = false) (D : va_G) (cA : Nat → ClassId) (lab : Nat → Nat) (nm : Nat → Nat → Nat) (rf : Nat → Nat → Option Nat) (f : Nat → Nat → Int32) (nC nL nV : Nat) (hi : CRi f nC nL nV) (A : Nat → Prop) (hl9 : CRl A lab nm rf nC nL) (H9 : Heap) (p1 : Int32) (p2 : Int32) (p3 : Int32) : vx_Met l yX6_valueAt wsX6_valueAt (rmK 41 3 18) (xPX D cA (fun U => pK A (nm 12 0) U) [.ref (nm 0 0), .int p1, .int p2, .int p3] (fun H => H = H9 ∧ CRv D cA lab nm rf f nC nL nV H ∧ IQ0 D cA nm H)) (xW (pJ (kVt (mS f) nL nC nV p1 p2 p3) (some (.long (akV (akE (mS f) (ix p2) (some (ix p1)) nL (ix p3)) (ix p3)))) (CS D cA A (nm 12 0) (nm 0 0) f nC nL nV)) A) (xT (kVt (mS f) nL nC nV p1 p2 p3) (fun k => (if k = 1 then eI else eS)) (CS D cA A (nm 12 0) (nm 0 0) f nC nL nV) A) 3 18 A := by
  refine vx_ofW (cc := cX6_valueAt) (maxL := 4) (ret := (some .long)) (by decide) rfl ?_
  intro p e s m args below meth c s₁ B hml ht hv
  obtain ⟨rfl, ⟨hK, hX⟩, hI⟩ := hv
  have hx := B.exec
  have hb := B.bytes
  have hr := B.returns
  have hts := atoms_spec (ws := wsX6_valueAt) B.pre
  have hown : s.vm.findClass RX6 = some m.cls := findClass_of_methodNamed B.named
  have hlocks := B.notSynchronized
  have hl := lv_entry ([.ref (nm 0 0), .int p1, .int p2, .int p3]) (n := 4) (Nat.le_of_ble_eq_true rfl)
  rw [lg_entry_eq]
  generalize (lg_sl ([.ref (nm 0 0), .int p1, .int p2, .int p3]) ++ List.replicate (4 - (lg_sl ([.ref (nm 0 0), .int p1, .int p2, .int p3])).length) Slot.unset).toArray = ls at hl ⊢
  have hl : lv_has ls 4 [(0, .ref (nm 0 0)), (1, .int p1), (2, .int p2), (3, .int p3)] := hl
  have h_X0 : ∀ w ∈ wsX00, w ∈ wsX6_valueAt := fun _ h => List.mem_cons_of_mem _ (List.mem_append_left _ (List.mem_append_left _ (List.mem_append_left _ (List.mem_append_left _ (List.mem_append_right _ h)))))
  have h_X1 : ∀ w ∈ wsX10, w ∈ wsX6_valueAt := fun _ h => List.mem_cons_of_mem _ (List.mem_append_left _ (List.mem_append_left _ (List.mem_append_right _ h)))
  have h_X2 : ∀ w ∈ wsX20, w ∈ wsX6_valueAt := fun _ h => List.mem_cons_of_mem _ (List.mem_append_left _ (List.mem_append_left _ (List.mem_append_left _ (List.mem_append_left _ (List.mem_append_left _ (List.mem_append_left _ (List.mem_append_right _ h)))))))
  have h_X3 : ∀ w ∈ wsX30, w ∈ wsX6_valueAt := fun _ h => List.mem_cons_of_mem _ (List.mem_append_left _ (List.mem_append_left _ (List.mem_append_left _ (List.mem_append_left _ (List.mem_append_left _ (List.mem_append_left _ (List.mem_append_left _ (List.mem_append_left _ (List.mem_append_right _ h)))))))))
  have h_X4 : ∀ w ∈ wsX40, w ∈ wsX6_valueAt := fun _ h => List.mem_cons_of_mem _ (List.mem_append_left _ (List.mem_append_left _ (List.mem_append_left _ (List.mem_append_left _ (List.mem_append_left _ (List.mem_append_right _ h))))))
  have h_X5 : ∀ w ∈ wsX50, w ∈ wsX6_valueAt := fun _ h => List.mem_cons_of_mem _ (List.mem_append_left _ (List.mem_append_left _ (List.mem_append_left _ (List.mem_append_right _ h))))
  have h_X6 : ∀ w ∈ wsX60, w ∈ wsX6_valueAt := fun _ h => List.mem_cons_of_mem _ (List.mem_append_left _ (List.mem_append_left _ (List.mem_append_left _ (List.mem_append_left _ (List.mem_append_left _ (List.mem_append_left _ (List.mem_append_left _ (List.mem_append_left _ (List.mem_append_left _ (List.mem_append_right _ h))))))))))
  have h_Jx4a65c : ∀ w ∈ wsJx4a65c0, w ∈ wsX6_valueAt := fun _ h => List.mem_cons_of_mem _ (List.mem_append_left _ (List.mem_append_left _ (List.mem_append_left _ (List.mem_append_left _ (List.mem_append_left _ (List.mem_append_left _ (List.mem_append_left _ (List.mem_append_right _ h))))))))
  obtain ⟨hH9, hI, hIQ⟩ := hI
  subst hH9
  have hV := hI
  have hi0 := hi
  obtain ⟨hT, ⟨mcC, dC, capC, fC, hOC, hQC, hnC, hcC, hfC, -⟩, ⟨mcL, dL, capL, fL, hOL, hQL, hnL, hcL, hfL, -⟩, ⟨mcV, dV, capV, fV, hOV, hQV, hnV, hcV, hfV, -⟩, hC, hL, hHo, hRo, hCh, hRl, hEn⟩ := hI
  obtain ⟨b1, b2, b3, iSel, iGd, iCur, iZero, iLk, iLkA, iLkB⟩ := hi
  have hS : va_S A s.heap s.heap [] := va_S.rf
  have hCS0 : CS D cA A (nm 12 0) (nm 0 0) f nC nL nV s.heap := ⟨lab, nm, rf, hV, hl9, hIQ, rfl, rfl⟩
  have hA9 : ∀ q, A9 nm q → A q := fun q h => hl9.1 q (by rcases h with h | h <;> rw [h] <;> first | (rw [hl9.2.2.2.2.2.1]; omega) | (rw [hl9.2.2.2.2.2.2.1]; omega))
  refine lv_aload_n hx hb dX6_valueAt_0 rfl (lv_at hl 0 rfl) ?_
  refine lv_iload_n hx hb dX6_valueAt_1 rfl (lv_at hl 1 rfl) ?_
  refine xr_call (va_runV (As := [.int p1]) (rest := []) ⟨hx, hb, hml, hown, hts⟩ (c_X6_isVersion l D cA lab nm rf f nC nL nV (⟨b1, b2, b3, iSel, iGd, iCur, iZero, iLk, iLkA, iLkB⟩) p1) (cwV 1 hts gX6_valueAt_X6_isVersion rfl rfl rfl (by decide +kernel) ⟨Nat.le_of_ble_eq_true rfl, Nat.le_of_ble_eq_true rfl⟩) (xPV hK hT rfl hV) rfl rfl hl.1 rfl (lv_room (Nat.le_of_ble_eq_true rfl)) dX6_valueAt_2 ⟨Nat.le_of_ble_eq_true rfl, Nat.le_of_ble_eq_true rfl⟩) ?_
  refine xb_eq (tgt := 27) hx hb dX6_valueAt_5 (by decide) (fun c_1 => ?_) (fun c_1 => ?_)
  · refine lv_iconst (v := 0) hx hb dX6_valueAt_27 (by decide) ?_
    refine xx_check (E0 := eI) (vx_runS (As := [.int 0]) (rest := []) ⟨hx, hb, hml, hown, hts⟩ (c_X6_checkThere l hst D cA A false 0 (by decide)) (va_cwS 1 hts gX6_valueAt_X6_checkThere rfl rfl rfl (by decide +kernel) ⟨Nat.le_of_ble_eq_true rfl, Nat.le_of_ble_eq_true rfl⟩) (xPXS hK tK.blind (fun U hU hW => hX.2.at hS (fun _ h => h) hU hW) trivial) rfl rfl hl.1 rfl (lv_room (Nat.le_of_ble_eq_true rfl)) dX6_valueAt_28 ⟨Nat.le_of_ble_eq_true rfl, Nat.le_of_ble_eq_true rfl⟩) hS (fun b_2 ce q9 H1 z1 k1 hS1 g1 g2 g3 => ?_) (fun b_2 => ?_)
    · have hk9 : kVt (mS f) nL nC nV p1 p2 p3 = 1 := by simp [kVt, kAt, c_1]
      exact vx_out (fun x hx => (ht x hx).elim) hlocks g1 g2 g3 (fun t ht9 _ => ⟨by rw [hk9]; decide, by rw [hk9] <;> rfl, by rw [ht9]; exact hCS0.same (fun q h1 _ => k1 q h1), hS1.F ht9⟩) hS1.2.2 (Nat.le_of_ble_eq_true rfl) (Nat.le_of_ble_eq_true rfl)
    · exact absurd b_2 (by decide)
  · refine lv_aload_n hx hb dX6_valueAt_8 rfl (lv_at hl 0 rfl) ?_
    refine lv_iload_n hx hb dX6_valueAt_9 rfl (lv_at hl 2 rfl) ?_
    refine xr_call (va_runV (As := [.int p2]) (rest := []) ⟨hx, hb, hml, hown, hts⟩ (c_X6_isClient l D cA lab nm rf f nC nL nV (⟨b1, b2, b3, iSel, iGd, iCur, iZero, iLk, iLkA, iLkB⟩) p2) (cwV 1 hts gX6_valueAt_X6_isClient rfl rfl rfl (by decide +kernel) ⟨Nat.le_of_ble_eq_true rfl, Nat.le_of_ble_eq_true rfl⟩) (xPV hK hT rfl hV) rfl rfl hl.1 rfl (lv_room (Nat.le_of_ble_eq_true rfl)) dX6_valueAt_10 ⟨Nat.le_of_ble_eq_true rfl, Nat.le_of_ble_eq_true rfl⟩) ?_
    refine xb_eq (tgt := 27) hx hb dX6_valueAt_13 (by decide) (fun c_3 => ?_) (fun c_3 => ?_)
    · refine lv_iconst (v := 0) hx hb dX6_valueAt_27 (by decide) ?_
      refine xx_check (E0 := eI) (vx_runS (As := [.int 0]) (rest := []) ⟨hx, hb, hml, hown, hts⟩ (c_X6_checkThere l hst D cA A false 0 (by decide)) (va_cwS 1 hts gX6_valueAt_X6_checkThere rfl rfl rfl (by decide +kernel) ⟨Nat.le_of_ble_eq_true rfl, Nat.le_of_ble_eq_true rfl⟩) (xPXS hK tK.blind (fun U hU hW => hX.2.at hS (fun _ h => h) hU hW) trivial) rfl rfl hl.1 rfl (lv_room (Nat.le_of_ble_eq_true rfl)) dX6_valueAt_28 ⟨Nat.le_of_ble_eq_true rfl, Nat.le_of_ble_eq_true rfl⟩) hS (fun b_4 ce q9 H1 z1 k1 hS1 g1 g2 g3 => ?_) (fun b_4 => ?_)
      · have hk9 : kVt (mS f) nL nC nV p1 p2 p3 = 1 := by simp [kVt, kAt, c_1, c_3]
        exact vx_out (fun x hx => (ht x hx).elim) hlocks g1 g2 g3 (fun t ht9 _ => ⟨by rw [hk9]; decide, by rw [hk9] <;> rfl, by rw [ht9]; exact hCS0.same (fun q h1 _ => k1 q h1), hS1.F ht9⟩) hS1.2.2 (Nat.le_of_ble_eq_true rfl) (Nat.le_of_ble_eq_true rfl)
      · exact absurd b_4 (by decide)
    · refine lv_iload_n hx hb dX6_valueAt_16 rfl (lv_at hl 3 rfl) ?_
      refine xr_call (va_runS (As := [.int p3]) (rest := []) ⟨hx, hb, hml, hown, hts⟩ (c_X6_isSetting l D cA p3) (va_cwS 1 hts gX6_valueAt_X6_isSetting rfl rfl rfl (by decide +kernel) ⟨Nat.le_of_ble_eq_true rfl, Nat.le_of_ble_eq_true rfl⟩) (xPS hK trivial) rfl rfl hl.1 rfl (lv_room (Nat.le_of_ble_eq_true rfl)) dX6_valueAt_17 ⟨Nat.le_of_ble_eq_true rfl, Nat.le_of_ble_eq_true rfl⟩) ?_
      refine xb_eq (tgt := 27) hx hb dX6_valueAt_20 (by decide) (fun c_5 => ?_) (fun c_5 => ?_)
      · refine lv_iconst (v := 0) hx hb dX6_valueAt_27 (by decide) ?_
        refine xx_check (E0 := eI) (vx_runS (As := [.int 0]) (rest := []) ⟨hx, hb, hml, hown, hts⟩ (c_X6_checkThere l hst D cA A false 0 (by decide)) (va_cwS 1 hts gX6_valueAt_X6_checkThere rfl rfl rfl (by decide +kernel) ⟨Nat.le_of_ble_eq_true rfl, Nat.le_of_ble_eq_true rfl⟩) (xPXS hK tK.blind (fun U hU hW => hX.2.at hS (fun _ h => h) hU hW) trivial) rfl rfl hl.1 rfl (lv_room (Nat.le_of_ble_eq_true rfl)) dX6_valueAt_28 ⟨Nat.le_of_ble_eq_true rfl, Nat.le_of_ble_eq_true rfl⟩) hS (fun b_6 ce q9 H1 z1 k1 hS1 g1 g2 g3 => ?_) (fun b_6 => ?_)
        · have hk9 : kVt (mS f) nL nC nV p1 p2 p3 = 1 := by simp [kVt, kAt, c_1, c_3, c_5]
          exact vx_out (fun x hx => (ht x hx).elim) hlocks g1 g2 g3 (fun t ht9 _ => ⟨by rw [hk9]; decide, by rw [hk9] <;> rfl, by rw [ht9]; exact hCS0.same (fun q h1 _ => k1 q h1), hS1.F ht9⟩) hS1.2.2 (Nat.le_of_ble_eq_true rfl) (Nat.le_of_ble_eq_true rfl)
        · exact absurd b_6 (by decide)
      · refine lv_iconst (v := 1) hx hb dX6_valueAt_23 (by decide) ?_
        refine lv_goto (tgt := 28) hx hb dX6_valueAt_24 (by decide) ?_
        refine xx_check (E0 := eI) (vx_runS (As := [.int 1]) (rest := []) ⟨hx, hb, hml, hown, hts⟩ (c_X6_checkThere l hst D cA A true 1 (by decide)) (va_cwS 1 hts gX6_valueAt_X6_checkThere rfl rfl rfl (by decide +kernel) ⟨Nat.le_of_ble_eq_true rfl, Nat.le_of_ble_eq_true rfl⟩) (xPXS hK tK.blind (fun U hU hW => hX.2.at hS (fun _ h => h) hU hW) trivial) rfl rfl hl.1 rfl (lv_room (Nat.le_of_ble_eq_true rfl)) dX6_valueAt_28 ⟨Nat.le_of_ble_eq_true rfl, Nat.le_of_ble_eq_true rfl⟩) hS (fun b_7 ce q9 H1 z1 k1 hS1 g1 g2 g3 => ?_) (fun b_7 => ?_)
        · exact absurd b_7 (by decide)
        · have _b_7 := b_7
          obtain ⟨ip1, hip1, ep1⟩ := okN_of (n := (nV + 1)) (v := p1) (by omega) (by have h9 := c_1; (try simp only [Bool.and_eq_true] at h9); simp [h9])
          subst ep1
          obtain ⟨ip2, hip2, ep2⟩ := okN_of (n := nC) (v := p2) (by omega) (by have h9 := c_3; (try simp only [Bool.and_eq_true] at h9); simp [h9])
          subst ep2
          obtain ⟨ip3, hip3, ep3⟩ := okS_of (v := p3) (by have h9 := c_5; (try simp only [Bool.and_eq_true] at h9); simp [h9])
          subst ep3
          refine lv_aload_n hx hb dX6_valueAt_31 rfl (lv_at hl 0 rfl) ?_
          refine lv_iload_n hx hb dX6_valueAt_32 rfl (lv_at hl 1 rfl) ?_
          refine lv_iload_n hx hb dX6_valueAt_33 rfl (lv_at hl 2 rfl) ?_
          refine lv_iload_n hx hb dX6_valueAt_34 rfl (lv_at hl 3 rfl) ?_
          refine xw_calln (va_runV (As := [.int (nI ip1), .int (nI ip2), .int (nI ip3)]) (rest := []) ⟨hx, hb, hml, hown, hts⟩ (c_X6_askAt l D cA lab nm rf f nC nL nV hi0 A hl9 ip2 ip3 (by omega) (by omega) ip1 (by omega)) (cwV 3 hts gX6_valueAt_X6_askAt rfl rfl rfl (by decide +kernel) ⟨Nat.le_of_ble_eq_true rfl, Nat.le_of_ble_eq_true rfl⟩) (xPV hK hT rfl ⟨hV, hIQ⟩) rfl rfl hl.1 rfl (lv_room (Nat.le_of_ble_eq_true rfl)) dX6_valueAt_35 ⟨Nat.le_of_ble_eq_true rfl, Nat.le_of_ble_eq_true rfl⟩) hS (fun q _ h => hA9 q h) (fun q h => hA9 q h) (fun H locs hJ z9 q9 hS => ?_)
          obtain ⟨hV, uw8, kn8, oc8, fa8, g8, hQ8, eN8, eS8⟩ := hJ
          have hIQ : IQ0 D cA nm H := ⟨_, some _, _, _, _, _, _, _, _, hQ8.1.1, hQ8.2⟩
          have hCS0 : CS D cA A (nm 12 0) (nm 0 0) f nC nL nV H := ⟨lab, nm, rf, hV, hl9, hIQ, rfl, rfl⟩
          have hI9 := hV
          obtain ⟨hT, ⟨mcC, dC, capC, fC, hOC, hQC, hnC, hcC, hfC, -⟩, ⟨mcL, dL, capL, fL, hOL, hQL, hnL, hcL, hfL, -⟩, ⟨mcV, dV, capV, fV, hOV, hQV, hnV, hcV, hfV, -⟩, hC, hL, hHo, hRo, hCh, hRl, hEn⟩ := hI9
          have hT8 : akT (cvE f ip2 (some ip1) nL ip3) = oc8 := (ak_oc eN8 eS8).symm
          refine lv_aload_n hx hb dX6_valueAt_38 rfl (lv_at hl 0 rfl) ?_
          refine x_get (v := .ref (nm 9 0)) hx hb hts h_X6 hown hK hT rfl 3 (by decide) (hts (.fieldLink RX6 25 "ConfigBeacon" "inquiry" "LConfigBeacon$Inquiry;") (by decide +kernel)) (fun _ h => h) rfl dX6_valueAt_39 ?_
          refine x_getN (v := .int oc8) hx hb hts h_X3 hown hK hQ8.1.1 rfl 7 (by decide) (va_Nw.use rfl (hK.2.2.1 ("ConfigBeacon", 210, "ConfigBeacon$Inquiry", "outcome", "I") (by decide))) (fun _ h => h) rfl dX6_valueAt_42 ?_
          refine lv_if_ne (tgt := 52) hx hb dX6_valueAt_45 (by decide) (fun c_9 => ?_) (fun c_9 => ?_)
          · refine lv_iconst (v := 0) hx hb dX6_valueAt_52 (by decide) ?_
            refine xx_check (E0 := eS) (vx_runS (As := [.int 0]) (rest := []) ⟨hx, hb, hml, hown, hts⟩ (c_X6_checkState l hst D cA A false 0 (by decide)) (va_cwS 1 hts gX6_valueAt_X6_checkState rfl rfl rfl (by decide +kernel) ⟨Nat.le_of_ble_eq_true rfl, Nat.le_of_ble_eq_true rfl⟩) (xPXS hK tK.blind (fun U hU hW => hX.2.at hS (fun _ h => h) hU hW) trivial) rfl rfl hl.1 rfl (lv_room (Nat.le_of_ble_eq_true rfl)) dX6_valueAt_53 ⟨Nat.le_of_ble_eq_true rfl, Nat.le_of_ble_eq_true rfl⟩) hS (fun b_10 ce q9 H1 z1 k1 hS1 g1 g2 g3 => ?_) (fun b_10 => ?_)
            · have hk9 : kVt (mS f) nL nC nV (nI ip1) (nI ip2) (nI ip3) = 2 := by simp [kVt, kAt, ix_nI (show ip1 < 65536 by omega), ix_nI (show ip2 < 65536 by omega), ix_nI (show ip3 < 65536 by omega), hT8, c_1, c_3, c_5, c_9]
              exact vx_out (fun x hx => (ht x hx).elim) hlocks g1 g2 g3 (fun t ht9 _ => ⟨by rw [hk9]; decide, by rw [hk9] <;> rfl, by rw [ht9]; exact hCS0.same (fun q h1 _ => k1 q h1), hS1.F ht9⟩) hS1.2.2 (Nat.le_of_ble_eq_true rfl) (Nat.le_of_ble_eq_true rfl)
            · exact absurd b_10 (by decide)
          · refine lv_iconst (v := 1) hx hb dX6_valueAt_48 (by decide) ?_
            refine lv_goto (tgt := 53) hx hb dX6_valueAt_49 (by decide) ?_
            refine xx_check (E0 := eS) (vx_runS (As := [.int 1]) (rest := []) ⟨hx, hb, hml, hown, hts⟩ (c_X6_checkState l hst D cA A true 1 (by decide)) (va_cwS 1 hts gX6_valueAt_X6_checkState rfl rfl rfl (by decide +kernel) ⟨Nat.le_of_ble_eq_true rfl, Nat.le_of_ble_eq_true rfl⟩) (xPXS hK tK.blind (fun U hU hW => hX.2.at hS (fun _ h => h) hU hW) trivial) rfl rfl hl.1 rfl (lv_room (Nat.le_of_ble_eq_true rfl)) dX6_valueAt_53 ⟨Nat.le_of_ble_eq_true rfl, Nat.le_of_ble_eq_true rfl⟩) hS (fun b_11 ce q9 H1 z1 k1 hS1 g1 g2 g3 => ?_) (fun b_11 => ?_)
            · exact absurd b_11 (by decide)
            · have _b_11 := b_11
              refine lv_aload_n hx hb dX6_valueAt_56 rfl (lv_at hl 0 rfl) ?_
              refine x_get (v := .ref (nm 9 0)) hx hb hts h_X6 hown hK hT rfl 3 (by decide) (hts (.fieldLink RX6 25 "ConfigBeacon" "inquiry" "LConfigBeacon$Inquiry;") (by decide +kernel)) (fun _ h => h) rfl dX6_valueAt_57 ?_
              refine x_getN (v := .ref (nm 9 1)) hx hb hts h_X3 hown hK hQ8.1.1 rfl 0 (by decide) (va_Nw.use rfl (hK.2.2.1 ("ConfigBeacon", 213, "ConfigBeacon$Inquiry", "values", "[J") (by decide))) (fun _ h => h) rfl dX6_valueAt_60 ?_
              refine lv_iload_n hx hb dX6_valueAt_63 rfl (lv_at hl 3 rfl) ?_
              refine x_lald hx hb hK hQ8.2 ip3 rfl (by omega) (by decide) dX6_valueAt_64 ?_
              refine vx_ret ?_
              exact xw_lret hx hb hr hlocks hS ⟨(by simp [kVt, kAt, ix_nI (show ip1 < 65536 by omega), ix_nI (show ip2 < 65536 by omega), ix_nI (show ip3 < 65536 by omega), hT8, c_1, c_3, c_5, c_9]), (by rw [ix_nI (show ip1 < 65536 by omega), ix_nI (show ip2 < 65536 by omega), ix_nI (show ip3 < 65536 by omega)]; exact congrArg (fun z => some (Value.long z)) (ak_val iGd (by omega) (fun v h => by cases h; omega) (by omega) eN8 eS8 c_9)), hCS0⟩ (Nat.le_of_ble_eq_true rfl) (Nat.le_of_ble_eq_true rfl) dX6_valueAt_65
