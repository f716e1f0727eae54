set_option maxHeartbeats 4000000 in
set_option maxRecDepth 100000 in
theorem c_X6_layerAt (l : Launch) (hst : l.stackTraces = false) (D : va_G) (cA : Nat → ClassId) (lab : Nat → Nat) (nm : Nat → Nat → Nat) (rf : Nat → Nat → Option Nat) (f : Nat → Nat → Int32) (nC nL nV : Nat) (hi : CRi f nC nL nV) (A : Nat → Prop) (hl9 : CRl A lab nm rf nC nL) (H9 : Heap) (p1 : Int32) : vx_Met l yX6_layerAt wsX6_layerAt (rmK 41 3 18) (xPX D cA (fun U => pK A (nm 12 0) U) [.ref (nm 0 0), .int p1] (fun H => H = H9 ∧ CRv D cA lab nm rf f nC nL nV H ∧ IQ0 D cA nm H)) (xW (pJ (kLA nL p1) (some (.int (lyAt (f 3) nL p1))) (CS D cA A (nm 12 0) (nm 0 0) f nC nL nV)) A) (xT (kLA nL p1) (fun k => eI) (CS D cA A (nm 12 0) (nm 0 0) f nC nL nV) A) 3 18 A := by
  refine vx_ofW (cc := cX6_layerAt) (maxL := 3) (ret := (some .int)) (by decide) rfl ?_
  intro p e s m args below meth c s₁ B hml ht hv
  obtain ⟨rfl, ⟨hK, hX⟩, hI⟩ := hv
  have hx := B.exec
  have hb := B.bytes
  have hr := B.returns
  have hts := atoms_spec (ws := wsX6_layerAt) B.pre
  have hown : s.vm.findClass RX6 = some m.cls := findClass_of_methodNamed B.named
  have hlocks := B.notSynchronized
  have hl := lv_entry ([.ref (nm 0 0), .int p1]) (n := 3) (Nat.le_of_ble_eq_true rfl)
  rw [lg_entry_eq]
  generalize (lg_sl ([.ref (nm 0 0), .int p1]) ++ List.replicate (3 - (lg_sl ([.ref (nm 0 0), .int p1])).length) Slot.unset).toArray = ls at hl ⊢
  have hl : lv_has ls 3 [(0, .ref (nm 0 0)), (1, .int p1)] := hl
  have h_X4 : ∀ w ∈ wsX40, w ∈ wsX6_layerAt := fun _ h => List.mem_cons_of_mem _ (List.mem_append_left _ (List.mem_append_right _ h))
  have h_X6 : ∀ w ∈ wsX60, w ∈ wsX6_layerAt := fun _ h => List.mem_cons_of_mem _ (List.mem_append_left _ (List.mem_append_left _ (List.mem_append_left _ (List.mem_append_right _ h))))
  have h_Jx4a65c : ∀ w ∈ wsJx4a65c0, w ∈ wsX6_layerAt := fun _ h => List.mem_cons_of_mem _ (List.mem_append_left _ (List.mem_append_left _ (List.mem_append_right _ h)))
  obtain ⟨hH9, hI, hIQ⟩ := hI
  subst hH9
  have hV := hI
  have hi0 := hi
  obtain ⟨hT, ⟨mcC, dC, capC, fC, hOC, hQC, hnC, hcC, hfC, -⟩, ⟨mcL, dL, capL, fL, hOL, hQL, hnL, hcL, hfL, -⟩, ⟨mcV, dV, capV, fV, hOV, hQV, hnV, hcV, hfV, -⟩, hC, hL, hHo, hRo, hCh, hRl, hEn⟩ := hI
  obtain ⟨b1, b2, b3, iSel, iGd, iCur, iZero, iLk, iLkA, iLkB⟩ := hi
  have hS : va_S A s.heap s.heap [] := va_S.rf
  have hCS0 : CS D cA A (nm 12 0) (nm 0 0) f nC nL nV s.heap := ⟨lab, nm, rf, hV, hl9, hIQ, rfl, rfl⟩
  refine lv_iconst (v := 0) hx hb dX6_layerAt_0 (by decide) ?_
  refine lv_istore_n (lv' := [(2, .int 0), (0, .ref (nm 0 0)), (1, .int p1)]) hx hb dX6_layerAt_1 rfl hl (by decide) rfl (fun ls hl => ?_)
  refine w_loopR (fun (i : Nat) ls => i ≤ nL ∧ (∀ j, j < i → ¬ nI (plcF (f 3) nL j) = p1) ∧ lv_has ls 3 [(0, .ref (nm 0 0)), (1, .int p1), (2, .int (nI i))]) (fun (i : Nat) => nL - i) ?_ 0 ⟨Nat.zero_le _, fun j hj => absurd hj (Nat.not_lt_zero _), lv_sub hl [1, 2, 0] rfl⟩
  intro i ls h9 ih
  obtain ⟨hi8, hno, hl⟩ := h9
  refine lv_iload_n hx hb dX6_layerAt_2 rfl (lv_at hl 2 rfl) ?_
  refine lv_aload_n hx hb dX6_layerAt_3 rfl (lv_at hl 0 rfl) ?_
  refine x_get (v := .ref (nm 1 1)) hx hb hts h_X6 hown hK hT rfl 1 (by decide) (hts (.fieldLink RX6 16 "ConfigBeacon" "allLayers" "Ljava/util/ArrayList;") (by decide +kernel)) (fun _ h => h) rfl dX6_layerAt_4 ?_
  refine xr_call (va_runV (As := []) (rest := [.int (nI i)]) ⟨hx, hb, hml, hown, hts⟩ (c_Jx4a65c_size_8abf5 l D cA (nm 1 1) mcL dL nL) (cwV 0 hts gX6_layerAt_Jx4a65c_size_8abf5 rfl rfl rfl (by decide +kernel) ⟨Nat.le_of_ble_eq_true rfl, Nat.le_of_ble_eq_true rfl⟩) (xPV hK hOL rfl hOL) rfl rfl hl.1 rfl (lv_room (Nat.le_of_ble_eq_true rfl)) dX6_layerAt_7 ⟨Nat.le_of_ble_eq_true rfl, Nat.le_of_ble_eq_true rfl⟩) ?_
  refine lv_icmp_ge (tgt := 30) hx hb dX6_layerAt_10 (by decide) (fun c_1 => ?_) (fun c_1 => ?_)
  · have n_1 : nL ≤ i := (nI_leI (a := nL) (b := i) (by omega) (by omega)).mp c_1
    have hk9 : kLA nL p1 = 1 := by simp [kLA, ly_no b2 (fun j hj => hno j (by omega))]
    obtain ⟨hXu, hXn, ⟨tx1, hx1⟩, ⟨tx2, hx2⟩, ⟨tx3, hx3⟩, ⟨tx4, hx4⟩, ⟨tx5, hx5⟩, ⟨tx6, hx6⟩, hXd, hXs⟩ := hX.2
    exact vx_throwS hx hb hst hown (cls := "java/lang/IndexOutOfBoundsException") (names := ["java/lang/RuntimeException", "java/lang/Exception"]) (by decide +kernel) (by decide +kernel) (hts (.classLink RX6 99 "java/lang/IndexOutOfBoundsException") (by decide +kernel)) (hts (.initialized "java/lang/IndexOutOfBoundsException") (by decide +kernel)) hx4 (vx_hat (B := [.declares (Bundle.initS "java/lang/RuntimeException"), .declares (Bundle.initS "java/lang/Exception"), .declares (Bundle.initS "java/lang/Throwable"), .castable "java/lang/IndexOutOfBoundsException" "java/lang/IndexOutOfBoundsException"]) (fun w h => hts w ((fun _ h => List.mem_cons_of_mem _ (List.mem_append_right _ h)) w h)) (by decide +kernel) (vx_c (va_Nw.use rfl (hXd "java/lang/RuntimeException" (by decide))) (vx_c (va_Nw.use rfl (hXd "java/lang/Exception" (by decide))) (vx_c (va_Nw.use rfl (hXd "java/lang/Throwable" (by decide))) (vx_c (va_Nw.use rfl (hXs "java/lang/IndexOutOfBoundsException" (by decide))) vx_n))))) (by decide +kernel) hXu hXn hS (hl.1.trans hml.symm) dX6_layerAt_30 dX6_layerAt_33 dX6_layerAt_34 dX6_layerAt_36 dX6_layerAt_39 (fun x hx => (ht x hx).elim) (by decide) (by decide) (Nat.le_of_ble_eq_true rfl) (Nat.le_of_ble_eq_true rfl) hlocks (fun t hv hz hk => ⟨by rw [hk9]; decide, by rw [hk9] <;> rfl, hCS0.same (fun q h1 _ => hk q h1), hz, fun q h1 _ => hk q h1⟩) (fun z h => nomatch h) (Nat.le_of_ble_eq_true rfl) (Nat.le_of_ble_eq_true rfl)
  · have n_1 : i < nL := Nat.not_le.mp (fun q => c_1 ((nI_leI (a := nL) (b := i) (by omega) (by omega)).mpr q))
    refine lv_aload_n hx hb dX6_layerAt_13 rfl (lv_at hl 0 rfl) ?_
    refine lv_iload_n hx hb dX6_layerAt_14 rfl (lv_at hl 2 rfl) ?_
    refine xr_call (va_runV (As := [.int (nI i)]) (rest := []) ⟨hx, hb, hml, hown, hts⟩ (c_X6_placeOf l D cA lab nm rf f nC nL nV hi0 i (by omega)) (cwV 1 hts gX6_layerAt_X6_placeOf rfl rfl rfl (by decide +kernel) ⟨Nat.le_of_ble_eq_true rfl, Nat.le_of_ble_eq_true rfl⟩) (xPV hK hT rfl hV) rfl rfl hl.1 rfl (lv_room (Nat.le_of_ble_eq_true rfl)) dX6_layerAt_15 ⟨Nat.le_of_ble_eq_true rfl, Nat.le_of_ble_eq_true rfl⟩) ?_
    refine lv_iload_n hx hb dX6_layerAt_18 rfl (lv_at hl 1 rfl) ?_
    refine lv_icmp_ne (tgt := 24) hx hb dX6_layerAt_19 (by decide) (fun c_2 => ?_) (fun c_2 => ?_)
    · refine lv_iinc (v := (nI (i + 1))) (lv' := [(2, .int (nI (i + 1))), (0, .ref (nm 0 0)), (1, .int p1)]) hx hb dX6_layerAt_24 hl (k := 2) rfl (ni_inc i) (by decide) rfl (fun ls hl => ?_)
      refine lv_goto (tgt := 2) hx hb dX6_layerAt_27 (by decide) ?_
      exact ih (i + 1) _ ⟨(by omega), (fun j hj q => (Nat.lt_or_ge j i).elim (fun h => hno j h q) (fun h => c_2 ((show j = i by omega) ▸ q))), lv_sub hl [1, 2, 0] rfl⟩ (by omega)
    · refine lv_iload_n hx hb dX6_layerAt_22 rfl (lv_at hl 2 rfl) ?_
      refine vx_ret ?_
      exact xw_iret hx hb hr hlocks hS ⟨(by simp [kLA, (ly_at b2 (show i < nL by omega) c_2).2]), (by rw [(ly_at b2 (show i < nL by omega) c_2).1]), hCS0⟩ (Nat.le_of_ble_eq_true rfl) (Nat.le_of_ble_eq_true rfl) dX6_layerAt_23
set_option maxHeartbeats 4000000 in
set_option maxRecDepth 100000 in
theorem c_X6_layerOf (l : Launch) (hst : l.stackTraces = false) (D : va_G) (cA : Nat → ClassId) (lab : Nat → Nat) (nm : Nat → Nat → Nat) (rf : Nat → Nat → Option Nat) (f : Nat → Nat → Int32) (nC nL nV : Nat) (hi : CRi f nC nL nV) (A : Nat → Prop) (hl9 : CRl A lab nm rf nC nL) (H9 : Heap) (p1 : Int32) (p2 : Int32) : vx_Met l yX6_layerOf wsX6_layerOf (rmK 41 3 18) (xPX D cA (fun U => pK A (nm 12 0) U) [.ref (nm 0 0), .int p1, .int p2] (fun H => H = H9 ∧ CRv D cA lab nm rf f nC nL nV H ∧ IQ0 D cA nm H)) (xW (pJ (kFo nC p1 p2) (some (.int (loI (decO f (ix p1) (ix p2) none nL)))) (CS D cA A (nm 12 0) (nm 0 0) f nC nL nV)) A) (xT (kFo nC p1 p2) (fun k => eI) (CS D cA A (nm 12 0) (nm 0 0) f nC nL nV) A) 3 18 A := by
  refine vx_ofW (cc := cX6_layerOf) (maxL := 3) (ret := (some .int)) (by decide) rfl ?_
  intro p e s m args below meth c s₁ B hml ht hv
  obtain ⟨rfl, ⟨hK, hX⟩, hI⟩ := hv
  have hx := B.exec
  have hb := B.bytes
  have hr := B.returns
  have hts := atoms_spec (ws := wsX6_layerOf) B.pre
  have hown : s.vm.findClass RX6 = some m.cls := findClass_of_methodNamed B.named
  have hlocks := B.notSynchronized
  have hl := lv_entry ([.ref (nm 0 0), .int p1, .int p2]) (n := 3) (Nat.le_of_ble_eq_true rfl)
  rw [lg_entry_eq]
  generalize (lg_sl ([.ref (nm 0 0), .int p1, .int p2]) ++ List.replicate (3 - (lg_sl ([.ref (nm 0 0), .int p1, .int p2])).length) Slot.unset).toArray = ls at hl ⊢
  have hl : lv_has ls 3 [(0, .ref (nm 0 0)), (1, .int p1), (2, .int p2)] := hl
  have h_X0 : ∀ w ∈ wsX00, w ∈ wsX6_layerOf := fun _ h => List.mem_cons_of_mem _ (List.mem_append_left _ (List.mem_append_left _ (List.mem_append_left _ (List.mem_append_right _ h))))
  have h_X1 : ∀ w ∈ wsX10, w ∈ wsX6_layerOf := fun _ h => List.mem_cons_of_mem _ (List.mem_append_left _ (List.mem_append_right _ h))
  have h_X3 : ∀ w ∈ wsX30, w ∈ wsX6_layerOf := fun _ h => List.mem_cons_of_mem _ (List.mem_append_left _ (List.mem_append_left _ (List.mem_append_left _ (List.mem_append_left _ (List.mem_append_left _ (List.mem_append_right _ h))))))
  have h_X4 : ∀ w ∈ wsX40, w ∈ wsX6_layerOf := fun _ h => List.mem_cons_of_mem _ (List.mem_append_left _ (List.mem_append_left _ (List.mem_append_left _ (List.mem_append_left _ (List.mem_append_right _ h)))))
  have h_X5 : ∀ w ∈ wsX50, w ∈ wsX6_layerOf := fun _ h => List.mem_cons_of_mem _ (List.mem_append_left _ (List.mem_append_left _ (List.mem_append_right _ h)))
  have h_X6 : ∀ w ∈ wsX60, w ∈ wsX6_layerOf := fun _ h => List.mem_cons_of_mem _ (List.mem_append_left _ (List.mem_append_left _ (List.mem_append_left _ (List.mem_append_left _ (List.mem_append_left _ (List.mem_append_left _ (List.mem_append_left _ (List.mem_append_right _ h))))))))
  have h_Jx4a65c : ∀ w ∈ wsJx4a65c0, w ∈ wsX6_layerOf := fun _ h => List.mem_cons_of_mem _ (List.mem_append_left _ (List.mem_append_left _ (List.mem_append_left _ (List.mem_append_left _ (List.mem_append_left _ (List.mem_append_left _ (List.mem_append_right _ h)))))))
  obtain ⟨hH9, hI, hIQ⟩ := hI
  subst hH9
  have hV := hI
  have hi0 := hi
  obtain ⟨hT, ⟨mcC, dC, capC, fC, hOC, hQC, hnC, hcC, hfC, -⟩, ⟨mcL, dL, capL, fL, hOL, hQL, hnL, hcL, hfL, -⟩, ⟨mcV, dV, capV, fV, hOV, hQV, hnV, hcV, hfV, -⟩, hC, hL, hHo, hRo, hCh, hRl, hEn⟩ := hI
  obtain ⟨b1, b2, b3, iSel, iGd, iCur, iZero, iLk, iLkA, iLkB⟩ := hi
  have hS : va_S A s.heap s.heap [] := va_S.rf
  have hCS0 : CS D cA A (nm 12 0) (nm 0 0) f nC nL nV s.heap := ⟨lab, nm, rf, hV, hl9, hIQ, rfl, rfl⟩
  have hA9 : ∀ q, A9 nm q → A q := fun q h => hl9.1 q (by rcases h with h | h <;> rw [h] <;> first | (rw [hl9.2.2.2.2.2.1]; omega) | (rw [hl9.2.2.2.2.2.2.1]; omega))
  refine lv_aload_n hx hb dX6_layerOf_0 rfl (lv_at hl 0 rfl) ?_
  refine lv_iload_n hx hb dX6_layerOf_1 rfl (lv_at hl 1 rfl) ?_
  refine xr_call (va_runV (As := [.int p1]) (rest := []) ⟨hx, hb, hml, hown, hts⟩ (c_X6_isClient l D cA lab nm rf f nC nL nV (⟨b1, b2, b3, iSel, iGd, iCur, iZero, iLk, iLkA, iLkB⟩) p1) (cwV 1 hts gX6_layerOf_X6_isClient rfl rfl rfl (by decide +kernel) ⟨Nat.le_of_ble_eq_true rfl, Nat.le_of_ble_eq_true rfl⟩) (xPV hK hT rfl hV) rfl rfl hl.1 rfl (lv_room (Nat.le_of_ble_eq_true rfl)) dX6_layerOf_2 ⟨Nat.le_of_ble_eq_true rfl, Nat.le_of_ble_eq_true rfl⟩) ?_
  refine xb_eq (tgt := 19) hx hb dX6_layerOf_5 (by decide) (fun c_1 => ?_) (fun c_1 => ?_)
  · refine lv_iconst (v := 0) hx hb dX6_layerOf_19 (by decide) ?_
    refine xx_check (E0 := eI) (vx_runS (As := [.int 0]) (rest := []) ⟨hx, hb, hml, hown, hts⟩ (c_X6_checkThere l hst D cA A false 0 (by decide)) (va_cwS 1 hts gX6_layerOf_X6_checkThere rfl rfl rfl (by decide +kernel) ⟨Nat.le_of_ble_eq_true rfl, Nat.le_of_ble_eq_true rfl⟩) (xPXS hK tK.blind (fun U hU hW => hX.2.at hS (fun _ h => h) hU hW) trivial) rfl rfl hl.1 rfl (lv_room (Nat.le_of_ble_eq_true rfl)) dX6_layerOf_20 ⟨Nat.le_of_ble_eq_true rfl, Nat.le_of_ble_eq_true rfl⟩) hS (fun b_2 ce q9 H1 z1 k1 hS1 g1 g2 g3 => ?_) (fun b_2 => ?_)
    · have hk9 : kFo nC p1 p2 = 1 := by simp [kFo, c_1]
      exact vx_out (fun x hx => (ht x hx).elim) hlocks g1 g2 g3 (fun t ht9 _ => ⟨by rw [hk9]; decide, by rw [hk9] <;> rfl, by rw [ht9]; exact hCS0.same (fun q h1 _ => k1 q h1), hS1.F ht9⟩) hS1.2.2 (Nat.le_of_ble_eq_true rfl) (Nat.le_of_ble_eq_true rfl)
    · exact absurd b_2 (by decide)
  · refine lv_iload_n hx hb dX6_layerOf_8 rfl (lv_at hl 2 rfl) ?_
    refine xr_call (va_runS (As := [.int p2]) (rest := []) ⟨hx, hb, hml, hown, hts⟩ (c_X6_isSetting l D cA p2) (va_cwS 1 hts gX6_layerOf_X6_isSetting rfl rfl rfl (by decide +kernel) ⟨Nat.le_of_ble_eq_true rfl, Nat.le_of_ble_eq_true rfl⟩) (xPS hK trivial) rfl rfl hl.1 rfl (lv_room (Nat.le_of_ble_eq_true rfl)) dX6_layerOf_9 ⟨Nat.le_of_ble_eq_true rfl, Nat.le_of_ble_eq_true rfl⟩) ?_
    refine xb_eq (tgt := 19) hx hb dX6_layerOf_12 (by decide) (fun c_3 => ?_) (fun c_3 => ?_)
    · refine lv_iconst (v := 0) hx hb dX6_layerOf_19 (by decide) ?_
      refine xx_check (E0 := eI) (vx_runS (As := [.int 0]) (rest := []) ⟨hx, hb, hml, hown, hts⟩ (c_X6_checkThere l hst D cA A false 0 (by decide)) (va_cwS 1 hts gX6_layerOf_X6_checkThere rfl rfl rfl (by decide +kernel) ⟨Nat.le_of_ble_eq_true rfl, Nat.le_of_ble_eq_true rfl⟩) (xPXS hK tK.blind (fun U hU hW => hX.2.at hS (fun _ h => h) hU hW) trivial) rfl rfl hl.1 rfl (lv_room (Nat.le_of_ble_eq_true rfl)) dX6_layerOf_20 ⟨Nat.le_of_ble_eq_true rfl, Nat.le_of_ble_eq_true rfl⟩) hS (fun b_4 ce q9 H1 z1 k1 hS1 g1 g2 g3 => ?_) (fun b_4 => ?_)
      · have hk9 : kFo nC p1 p2 = 1 := by simp [kFo, c_1, c_3]
        exact vx_out (fun x hx => (ht x hx).elim) hlocks g1 g2 g3 (fun t ht9 _ => ⟨by rw [hk9]; decide, by rw [hk9] <;> rfl, by rw [ht9]; exact hCS0.same (fun q h1 _ => k1 q h1), hS1.F ht9⟩) hS1.2.2 (Nat.le_of_ble_eq_true rfl) (Nat.le_of_ble_eq_true rfl)
      · exact absurd b_4 (by decide)
    · refine lv_iconst (v := 1) hx hb dX6_layerOf_15 (by decide) ?_
      refine lv_goto (tgt := 20) hx hb dX6_layerOf_16 (by decide) ?_
      refine xx_check (E0 := eI) (vx_runS (As := [.int 1]) (rest := []) ⟨hx, hb, hml, hown, hts⟩ (c_X6_checkThere l hst D cA A true 1 (by decide)) (va_cwS 1 hts gX6_layerOf_X6_checkThere rfl rfl rfl (by decide +kernel) ⟨Nat.le_of_ble_eq_true rfl, Nat.le_of_ble_eq_true rfl⟩) (xPXS hK tK.blind (fun U hU hW => hX.2.at hS (fun _ h => h) hU hW) trivial) rfl rfl hl.1 rfl (lv_room (Nat.le_of_ble_eq_true rfl)) dX6_layerOf_20 ⟨Nat.le_of_ble_eq_true rfl, Nat.le_of_ble_eq_true rfl⟩) hS (fun b_5 ce q9 H1 z1 k1 hS1 g1 g2 g3 => ?_) (fun b_5 => ?_)
      · exact absurd b_5 (by decide)
      · have _b_5 := b_5
        obtain ⟨ip1, hip1, ep1⟩ := okN_of (n := nC) (v := p1) (by omega) (by have h9 := c_1; (try simp only [Bool.and_eq_true] at h9); simp [h9])
        subst ep1
        obtain ⟨ip2, hip2, ep2⟩ := okS_of (v := p2) (by have h9 := c_3; (try simp only [Bool.and_eq_true] at h9); simp [h9])
        subst ep2
        refine lv_aload_n hx hb dX6_layerOf_23 rfl (lv_at hl 0 rfl) ?_
        refine x_get (v := .ref (nm 9 0)) hx hb hts h_X6 hown hK hT rfl 3 (by decide) (hts (.fieldLink RX6 25 "ConfigBeacon" "inquiry" "LConfigBeacon$Inquiry;") (by decide +kernel)) (fun _ h => h) rfl dX6_layerOf_24 ?_
        refine lv_iload_n hx hb dX6_layerOf_27 rfl (lv_at hl 1 rfl) ?_
        refine lv_aload_n hx hb dX6_layerOf_28 rfl (lv_at hl 0 rfl) ?_
        refine x_get (v := .ref (nm 7 nV)) hx hb hts h_X6 hown hK hT rfl 4 (by decide) (hts (.fieldLink RX6 32 "ConfigBeacon" "current" "LConfigBeacon$Entries;") (by decide +kernel)) (fun _ h => h) rfl dX6_layerOf_29 ?_
        refine lv_iconst (v := 1) hx hb dX6_layerOf_32 (by decide) ?_
        obtain ⟨ic, en9, wr, lo, uw, kn, oc, fa, g, hIq, hW9⟩ := hIQ
        have l8 := hl9.2.2.2.2.2.1
        have hne : ¬ nm 9 1 = nm 9 0 := fun e => by have l9 := hl9.2.2.2.2.2.2.1; rw [e, l8] at l9; exact absurd l9 (by decide)
        refine xw_calln (va_runV (As := [.int (nI ip1), .ref (nm 7 nV), .int 1]) (rest := []) ⟨hx, hb, hml, hown, hts⟩ (c_X3_begin l D cA (nm 9 0) (nm 9 1) ic en9 wr lo uw kn oc fa (nI ip1) (nm 7 nV) none) (cwV 3 hts gX6_layerOf_X3_begin rfl rfl rfl (by decide +kernel) ⟨Nat.le_of_ble_eq_true rfl, Nat.le_of_ble_eq_true rfl⟩) (xPV hK hIq rfl hIq) rfl rfl hl.1 rfl (lv_room (Nat.le_of_ble_eq_true rfl)) dX6_layerOf_33 ⟨Nat.le_of_ble_eq_true rfl, Nat.le_of_ble_eq_true rfl⟩) hS (fun q _ h => hA9 q (Or.inl h)) (fun q h => hA9 q (Or.inl h)) (fun H locs hIq z9 q9 hS => ?_)
        have hV := hV.keptI hl9 (fun q hz h8 h9 => q9 q hz (fun e => h8 (by rw [e]; exact l8)))
        have hW9 := x_kept hW9 (q9 _ (q_lt hW9) hne)
        have hIQ : IQ0 D cA nm H := ⟨_, some _, _, _, _, _, _, _, _, hIq, hW9⟩
        have hCS0 : CS D cA A (nm 12 0) (nm 0 0) f nC nL nV H := ⟨lab, nm, rf, hV, hl9, hIQ, rfl, rfl⟩
        have hI9 := hV
        obtain ⟨hT, ⟨mcC, dC, capC, fC, hOC, hQC, hnC, hcC, hfC, -⟩, ⟨mcL, dL, capL, fL, hOL, hQL, hnL, hcL, hfL, -⟩, ⟨mcV, dV, capV, fV, hOV, hQV, hnV, hcV, hfV, -⟩, hC, hL, hHo, hRo, hCh, hRl, hEn⟩ := hI9
        have hEn9 : ENT D cA lab (nm 7 nV) (baF f none) H := (hEn nV (Nat.le_refl _)).cong (fun k hk => (iCur k hk).symm)
        refine lv_aload_n hx hb dX6_layerOf_36 rfl (lv_at hl 0 rfl) ?_
        refine lv_iload_n hx hb dX6_layerOf_37 rfl (lv_at hl 2 rfl) ?_
        refine xr_call (va_runV (As := [.int (nI ip2)]) (rest := []) ⟨hx, hb, hml, hown, hts⟩ (c_X6_decidingLayer l D cA lab nm rf f nC nL nV hi0 (nm 7 nV) ip1 none 0 0 0 0 (-1) hip1 A hl9 ip2 hip2) (cwV 1 hts gX6_layerOf_X6_decidingLayer rfl rfl rfl (by decide +kernel) ⟨Nat.le_of_ble_eq_true rfl, Nat.le_of_ble_eq_true rfl⟩) (xPV hK hT rfl ⟨hV, hIq, hEn9⟩) rfl rfl hl.1 rfl (lv_room (Nat.le_of_ble_eq_true rfl)) dX6_layerOf_38 ⟨Nat.le_of_ble_eq_true rfl, Nat.le_of_ble_eq_true rfl⟩) ?_
        refine vx_ret ?_
        exact xw_iret hx hb hr hlocks hS ⟨(by simp [kFo, ix_nI (show ip1 < 65536 by omega), ix_nI (show ip2 < 65536 by omega), c_1, c_3]), (by rw [ix_nI (show ip1 < 65536 by omega), ix_nI (show ip2 < 65536 by omega)]), hCS0⟩ (Nat.le_of_ble_eq_true rfl) (Nat.le_of_ble_eq_true rfl) dX6_layerOf_41
set_option maxHeartbeats 4000000 in
set_option maxRecDepth 100000 in
theorem c_X6_isNew (l : Launch) (hst : l.stackTraces = false) (D : va_G) (cA : Nat → ClassId) (lab : Nat → Nat) (nm : Nat → Nat → Nat) (rf : Nat → Nat → Option Nat) (f : Nat → Nat → Int32) (nC nL nV : Nat) (hi : CRi f nC nL nV) (A : Nat → Prop) (hl9 : CRl A lab nm rf nC nL) (H9 : Heap) (p1 : Int32) (p2 : Int32) : vx_Met l yX6_isNew wsX6_isNew (rmK 41 3 18) (xPX D cA (fun U => pK A (nm 12 0) U) [.ref (nm 0 0), .int p1, .int p2] (fun H => H = H9 ∧ CRv D cA lab nm rf f nC nL nV H ∧ IQ0 D cA nm H)) (xW (pJ (kFo nC p1 p2) (some (.int (bI (nwF f (ix p1) (ix p2) nL)))) (CS D cA A (nm 12 0) (nm 0 0) f nC nL nV)) A) (xT (kFo nC p1 p2) (fun k => eI) (CS D cA A (nm 12 0) (nm 0 0) f nC nL nV) A) 3 18 A := by
  refine vx_ofW (cc := cX6_isNew) (maxL := 4) (ret := (some .boolean)) (by decide) rfl ?_
  intro p e s m args below meth c s₁ B hml ht hv
  obtain ⟨rfl, ⟨hK, hX⟩, hI⟩ := hv
  have hx := B.exec
  have hb := B.bytes
  have hr := B.returns
  have hts := atoms_spec (ws := wsX6_isNew) B.pre
  have hown : s.vm.findClass RX6 = some m.cls := findClass_of_methodNamed B.named
  have hlocks := B.notSynchronized
  have hl := lv_entry ([.ref (nm 0 0), .int p1, .int p2]) (n := 4) (Nat.le_of_ble_eq_true rfl)
  rw [lg_entry_eq]
  generalize (lg_sl ([.ref (nm 0 0), .int p1, .int p2]) ++ List.replicate (4 - (lg_sl ([.ref (nm 0 0), .int p1, .int p2])).length) Slot.unset).toArray = ls at hl ⊢
  have hl : lv_has ls 4 [(0, .ref (nm 0 0)), (1, .int p1), (2, .int p2)] := hl
  have h_X0 : ∀ w ∈ wsX00, w ∈ wsX6_isNew := fun _ h => List.mem_cons_of_mem _ (List.mem_append_left _ (List.mem_append_left _ (List.mem_append_left _ (List.mem_append_right _ h))))
  have h_X1 : ∀ w ∈ wsX10, w ∈ wsX6_isNew := fun _ h => List.mem_cons_of_mem _ (List.mem_append_left _ (List.mem_append_right _ h))
  have h_X3 : ∀ w ∈ wsX30, w ∈ wsX6_isNew := fun _ h => List.mem_cons_of_mem _ (List.mem_append_left _ (List.mem_append_left _ (List.mem_append_left _ (List.mem_append_left _ (List.mem_append_left _ (List.mem_append_right _ h))))))
  have h_X4 : ∀ w ∈ wsX40, w ∈ wsX6_isNew := fun _ h => List.mem_cons_of_mem _ (List.mem_append_left _ (List.mem_append_left _ (List.mem_append_left _ (List.mem_append_left _ (List.mem_append_right _ h)))))
  have h_X5 : ∀ w ∈ wsX50, w ∈ wsX6_isNew := fun _ h => List.mem_cons_of_mem _ (List.mem_append_left _ (List.mem_append_left _ (List.mem_append_right _ h)))
  have h_X6 : ∀ w ∈ wsX60, w ∈ wsX6_isNew := fun _ h => List.mem_cons_of_mem _ (List.mem_append_left _ (List.mem_append_left _ (List.mem_append_left _ (List.mem_append_left _ (List.mem_append_left _ (List.mem_append_left _ (List.mem_append_left _ (List.mem_append_right _ h))))))))
  have h_Jx4a65c : ∀ w ∈ wsJx4a65c0, w ∈ wsX6_isNew := fun _ h => List.mem_cons_of_mem _ (List.mem_append_left _ (List.mem_append_left _ (List.mem_append_left _ (List.mem_append_left _ (List.mem_append_left _ (List.mem_append_left _ (List.mem_append_right _ h)))))))
  obtain ⟨hH9, hI, hIQ⟩ := hI
  subst hH9
  have hV := hI
  have hi0 := hi
  obtain ⟨hT, ⟨mcC, dC, capC, fC, hOC, hQC, hnC, hcC, hfC, -⟩, ⟨mcL, dL, capL, fL, hOL, hQL, hnL, hcL, hfL, -⟩, ⟨mcV, dV, capV, fV, hOV, hQV, hnV, hcV, hfV, -⟩, hC, hL, hHo, hRo, hCh, hRl, hEn⟩ := hI
  obtain ⟨b1, b2, b3, iSel, iGd, iCur, iZero, iLk, iLkA, iLkB⟩ := hi
  have hS : va_S A s.heap s.heap [] := va_S.rf
  have hCS0 : CS D cA A (nm 12 0) (nm 0 0) f nC nL nV s.heap := ⟨lab, nm, rf, hV, hl9, hIQ, rfl, rfl⟩
  have hA9 : ∀ q, A9 nm q → A q := fun q h => hl9.1 q (by rcases h with h | h <;> rw [h] <;> first | (rw [hl9.2.2.2.2.2.1]; omega) | (rw [hl9.2.2.2.2.2.2.1]; omega))
  refine lv_aload_n hx hb dX6_isNew_0 rfl (lv_at hl 0 rfl) ?_
  refine lv_iload_n hx hb dX6_isNew_1 rfl (lv_at hl 1 rfl) ?_
  refine xr_call (va_runV (As := [.int p1]) (rest := []) ⟨hx, hb, hml, hown, hts⟩ (c_X6_isClient l D cA lab nm rf f nC nL nV (⟨b1, b2, b3, iSel, iGd, iCur, iZero, iLk, iLkA, iLkB⟩) p1) (cwV 1 hts gX6_isNew_X6_isClient rfl rfl rfl (by decide +kernel) ⟨Nat.le_of_ble_eq_true rfl, Nat.le_of_ble_eq_true rfl⟩) (xPV hK hT rfl hV) rfl rfl hl.1 rfl (lv_room (Nat.le_of_ble_eq_true rfl)) dX6_isNew_2 ⟨Nat.le_of_ble_eq_true rfl, Nat.le_of_ble_eq_true rfl⟩) ?_
  refine xb_eq (tgt := 19) hx hb dX6_isNew_5 (by decide) (fun c_1 => ?_) (fun c_1 => ?_)
  · refine lv_iconst (v := 0) hx hb dX6_isNew_19 (by decide) ?_
    refine xx_check (E0 := eI) (vx_runS (As := [.int 0]) (rest := []) ⟨hx, hb, hml, hown, hts⟩ (c_X6_checkThere l hst D cA A false 0 (by decide)) (va_cwS 1 hts gX6_isNew_X6_checkThere rfl rfl rfl (by decide +kernel) ⟨Nat.le_of_ble_eq_true rfl, Nat.le_of_ble_eq_true rfl⟩) (xPXS hK tK.blind (fun U hU hW => hX.2.at hS (fun _ h => h) hU hW) trivial) rfl rfl hl.1 rfl (lv_room (Nat.le_of_ble_eq_true rfl)) dX6_isNew_20 ⟨Nat.le_of_ble_eq_true rfl, Nat.le_of_ble_eq_true rfl⟩) hS (fun b_2 ce q9 H1 z1 k1 hS1 g1 g2 g3 => ?_) (fun b_2 => ?_)
    · have hk9 : kFo nC p1 p2 = 1 := by simp [kFo, c_1]
      exact vx_out (fun x hx => (ht x hx).elim) hlocks g1 g2 g3 (fun t ht9 _ => ⟨by rw [hk9]; decide, by rw [hk9] <;> rfl, by rw [ht9]; exact hCS0.same (fun q h1 _ => k1 q h1), hS1.F ht9⟩) hS1.2.2 (Nat.le_of_ble_eq_true rfl) (Nat.le_of_ble_eq_true rfl)
    · exact absurd b_2 (by decide)
  · refine lv_iload_n hx hb dX6_isNew_8 rfl (lv_at hl 2 rfl) ?_
    refine xr_call (va_runS (As := [.int p2]) (rest := []) ⟨hx, hb, hml, hown, hts⟩ (c_X6_isSetting l D cA p2) (va_cwS 1 hts gX6_isNew_X6_isSetting rfl rfl rfl (by decide +kernel) ⟨Nat.le_of_ble_eq_true rfl, Nat.le_of_ble_eq_true rfl⟩) (xPS hK trivial) rfl rfl hl.1 rfl (lv_room (Nat.le_of_ble_eq_true rfl)) dX6_isNew_9 ⟨Nat.le_of_ble_eq_true rfl, Nat.le_of_ble_eq_true rfl⟩) ?_
    refine xb_eq (tgt := 19) hx hb dX6_isNew_12 (by decide) (fun c_3 => ?_) (fun c_3 => ?_)
    · refine lv_iconst (v := 0) hx hb dX6_isNew_19 (by decide) ?_
      refine xx_check (E0 := eI) (vx_runS (As := [.int 0]) (rest := []) ⟨hx, hb, hml, hown, hts⟩ (c_X6_checkThere l hst D cA A false 0 (by decide)) (va_cwS 1 hts gX6_isNew_X6_checkThere rfl rfl rfl (by decide +kernel) ⟨Nat.le_of_ble_eq_true rfl, Nat.le_of_ble_eq_true rfl⟩) (xPXS hK tK.blind (fun U hU hW => hX.2.at hS (fun _ h => h) hU hW) trivial) rfl rfl hl.1 rfl (lv_room (Nat.le_of_ble_eq_true rfl)) dX6_isNew_20 ⟨Nat.le_of_ble_eq_true rfl, Nat.le_of_ble_eq_true rfl⟩) hS (fun b_4 ce q9 H1 z1 k1 hS1 g1 g2 g3 => ?_) (fun b_4 => ?_)
      · have hk9 : kFo nC p1 p2 = 1 := by simp [kFo, c_1, c_3]
        exact vx_out (fun x hx => (ht x hx).elim) hlocks g1 g2 g3 (fun t ht9 _ => ⟨by rw [hk9]; decide, by rw [hk9] <;> rfl, by rw [ht9]; exact hCS0.same (fun q h1 _ => k1 q h1), hS1.F ht9⟩) hS1.2.2 (Nat.le_of_ble_eq_true rfl) (Nat.le_of_ble_eq_true rfl)
      · exact absurd b_4 (by decide)
    · refine lv_iconst (v := 1) hx hb dX6_isNew_15 (by decide) ?_
      refine lv_goto (tgt := 20) hx hb dX6_isNew_16 (by decide) ?_
      refine xx_check (E0 := eI) (vx_runS (As := [.int 1]) (rest := []) ⟨hx, hb, hml, hown, hts⟩ (c_X6_checkThere l hst D cA A true 1 (by decide)) (va_cwS 1 hts gX6_isNew_X6_checkThere rfl rfl rfl (by decide +kernel) ⟨Nat.le_of_ble_eq_true rfl, Nat.le_of_ble_eq_true rfl⟩) (xPXS hK tK.blind (fun U hU hW => hX.2.at hS (fun _ h => h) hU hW) trivial) rfl rfl hl.1 rfl (lv_room (Nat.le_of_ble_eq_true rfl)) dX6_isNew_20 ⟨Nat.le_of_ble_eq_true rfl, Nat.le_of_ble_eq_true rfl⟩) hS (fun b_5 ce q9 H1 z1 k1 hS1 g1 g2 g3 => ?_) (fun b_5 => ?_)
      · exact absurd b_5 (by decide)
      · have _b_5 := b_5
        obtain ⟨ip1, hip1, ep1⟩ := okN_of (n := nC) (v := p1) (by omega) (by have h9 := c_1; (try simp only [Bool.and_eq_true] at h9); simp [h9])
        subst ep1
        obtain ⟨ip2, hip2, ep2⟩ := okS_of (v := p2) (by have h9 := c_3; (try simp only [Bool.and_eq_true] at h9); simp [h9])
        subst ep2
        refine lv_aload_n hx hb dX6_isNew_23 rfl (lv_at hl 0 rfl) ?_
        refine x_get (v := .ref (nm 9 0)) hx hb hts h_X6 hown hK hT rfl 3 (by decide) (hts (.fieldLink RX6 25 "ConfigBeacon" "inquiry" "LConfigBeacon$Inquiry;") (by decide +kernel)) (fun _ h => h) rfl dX6_isNew_24 ?_
        refine lv_iload_n hx hb dX6_isNew_27 rfl (lv_at hl 1 rfl) ?_
        refine lv_aload_n hx hb dX6_isNew_28 rfl (lv_at hl 0 rfl) ?_
        refine x_get (v := .ref (nm 7 nV)) hx hb hts h_X6 hown hK hT rfl 4 (by decide) (hts (.fieldLink RX6 32 "ConfigBeacon" "current" "LConfigBeacon$Entries;") (by decide +kernel)) (fun _ h => h) rfl dX6_isNew_29 ?_
        refine lv_iconst (v := 1) hx hb dX6_isNew_32 (by decide) ?_
        obtain ⟨ic, en9, wr, lo, uw, kn, oc, fa, g, hIq, hW9⟩ := hIQ
        have l8 := hl9.2.2.2.2.2.1
        have hne : ¬ nm 9 1 = nm 9 0 := fun e => by have l9 := hl9.2.2.2.2.2.2.1; rw [e, l8] at l9; exact absurd l9 (by decide)
        refine xw_calln (va_runV (As := [.int (nI ip1), .ref (nm 7 nV), .int 1]) (rest := []) ⟨hx, hb, hml, hown, hts⟩ (c_X3_begin l D cA (nm 9 0) (nm 9 1) ic en9 wr lo uw kn oc fa (nI ip1) (nm 7 nV) none) (cwV 3 hts gX6_isNew_X3_begin rfl rfl rfl (by decide +kernel) ⟨Nat.le_of_ble_eq_true rfl, Nat.le_of_ble_eq_true rfl⟩) (xPV hK hIq rfl hIq) rfl rfl hl.1 rfl (lv_room (Nat.le_of_ble_eq_true rfl)) dX6_isNew_33 ⟨Nat.le_of_ble_eq_true rfl, Nat.le_of_ble_eq_true rfl⟩) hS (fun q _ h => hA9 q (Or.inl h)) (fun q h => hA9 q (Or.inl h)) (fun H locs hIq z9 q9 hS => ?_)
        have hV := hV.keptI hl9 (fun q hz h8 h9 => q9 q hz (fun e => h8 (by rw [e]; exact l8)))
        have hW9 := x_kept hW9 (q9 _ (q_lt hW9) hne)
        have hIQ : IQ0 D cA nm H := ⟨_, some _, _, _, _, _, _, _, _, hIq, hW9⟩
        have hCS0 : CS D cA A (nm 12 0) (nm 0 0) f nC nL nV H := ⟨lab, nm, rf, hV, hl9, hIQ, rfl, rfl⟩
        have hI9 := hV
        obtain ⟨hT, ⟨mcC, dC, capC, fC, hOC, hQC, hnC, hcC, hfC, -⟩, ⟨mcL, dL, capL, fL, hOL, hQL, hnL, hcL, hfL, -⟩, ⟨mcV, dV, capV, fV, hOV, hQV, hnV, hcV, hfV, -⟩, hC, hL, hHo, hRo, hCh, hRl, hEn⟩ := hI9
        have hEn9 : ENT D cA lab (nm 7 nV) (baF f none) H := (hEn nV (Nat.le_refl _)).cong (fun k hk => (iCur k hk).symm)
        refine lv_aload_n hx hb dX6_isNew_36 rfl (lv_at hl 0 rfl) ?_
        refine lv_iload_n hx hb dX6_isNew_37 rfl (lv_at hl 2 rfl) ?_
        refine xr_call (va_runV (As := [.int (nI ip2)]) (rest := []) ⟨hx, hb, hml, hown, hts⟩ (c_X6_decidingLayer l D cA lab nm rf f nC nL nV hi0 (nm 7 nV) ip1 none 0 0 0 0 (-1) hip1 A hl9 ip2 hip2) (cwV 1 hts gX6_isNew_X6_decidingLayer rfl rfl rfl (by decide +kernel) ⟨Nat.le_of_ble_eq_true rfl, Nat.le_of_ble_eq_true rfl⟩) (xPV hK hT rfl ⟨hV, hIq, hEn9⟩) rfl rfl hl.1 rfl (lv_room (Nat.le_of_ble_eq_true rfl)) dX6_isNew_38 ⟨Nat.le_of_ble_eq_true rfl, Nat.le_of_ble_eq_true rfl⟩) ?_
        cases hd9 : decO f ip1 ip2 none nL with
        | none =>
          refine xe_top (y := -1) rfl ?_
          refine lv_istore_n (lv' := [(3, .int (-1)), (0, .ref (nm 0 0)), (1, .int (nI ip1)), (2, .int (nI ip2))]) hx hb dX6_isNew_41 rfl hl (by decide) rfl (fun ls hl => ?_)
          refine lv_iload_n hx hb dX6_isNew_42 rfl (lv_at hl 0 rfl) ?_
          refine lv_iconst (v := (-1)) hx hb dX6_isNew_43 (by decide) ?_
          refine lv_icmp_eq (tgt := 70) hx hb dX6_isNew_44 (by decide) (fun _ => ?_) (fun c_6 => absurd c_6 (by decide))
          refine lv_iconst (v := 0) hx hb dX6_isNew_70 (by decide) ?_
          refine vx_ret ?_
          exact xw_zret hx hb hr hlocks (b := nwF f ip1 ip2 nL) (by unfold nwF; rw [hd9]; rfl) hS ⟨(by simp [kFo, ix_nI (show ip1 < 65536 by omega), ix_nI (show ip2 < 65536 by omega), c_1, c_3]), (by rw [ix_nI (show ip1 < 65536 by omega), ix_nI (show ip2 < 65536 by omega)]), hCS0⟩ (Nat.le_of_ble_eq_true rfl) (Nat.le_of_ble_eq_true rfl) dX6_isNew_71
        | some j9 =>
          refine xe_top (y := nI j9) rfl ?_
          have hj9 := (decO_lt hd9).1
          refine lv_istore_n (lv' := [(3, .int (nI j9)), (0, .ref (nm 0 0)), (1, .int (nI ip1)), (2, .int (nI ip2))]) hx hb dX6_isNew_41 rfl hl (by decide) rfl (fun ls hl => ?_)
          refine lv_iload_n hx hb dX6_isNew_42 rfl (lv_at hl 0 rfl) ?_
          refine lv_iconst (v := (-1)) hx hb dX6_isNew_43 (by decide) ?_
          refine lv_icmp_eq (tgt := 70) hx hb dX6_isNew_44 (by decide) (fun c_7 => absurd c_7 (nI_m1 (by omega))) (fun _ => ?_)
          refine lv_aload_n hx hb dX6_isNew_47 rfl (lv_at hl 1 rfl) ?_
          refine x_get (v := .ref (nm 1 1)) hx hb hts h_X6 hown hK hT rfl 1 (by decide) (hts (.fieldLink RX6 16 "ConfigBeacon" "allLayers" "Ljava/util/ArrayList;") (by decide +kernel)) (fun _ h => h) rfl dX6_isNew_48 ?_
          refine lv_iload_n hx hb dX6_isNew_51 rfl (lv_at hl 0 rfl) ?_
          refine xr_call (va_runV (As := [.int (nI j9)]) (rest := []) ⟨hx, hb, hml, hown, hts⟩ (c_Jx4a65c_get_915e3 l D cA (nm 1 1) mcL dL nL capL fL j9 (by omega) hnL hcL (some (nm 3 j9)) (hfL j9 (by omega))) (cwV 1 hts gX6_isNew_Jx4a65c_get_915e3 rfl rfl rfl (by decide +kernel) ⟨Nat.le_of_ble_eq_true rfl, Nat.le_of_ble_eq_true rfl⟩) (xPV hK hOL rfl ⟨hOL, hQL (by omega)⟩) rfl rfl hl.1 rfl (lv_room (Nat.le_of_ble_eq_true rfl)) dX6_isNew_52 ⟨Nat.le_of_ble_eq_true rfl, Nat.le_of_ble_eq_true rfl⟩) ?_
          refine x_cast hx hb hown (hts (.classLink RX6 84 "ConfigBeacon$Layer") (by decide +kernel)) hK (hL j9 (by omega)) rfl dX6_isNew_55 ?_
          refine lv_iload_n hx hb dX6_isNew_58 rfl (lv_at hl 2 rfl) ?_
          refine lv_iload_n hx hb dX6_isNew_59 rfl (lv_at hl 3 rfl) ?_
          have hR9 := hRl j9 ip2 (by omega) (by omega)
          refine xr_call (va_runV (As := [.int (nI ip1), .int (nI ip2)]) (rest := []) ⟨hx, hb, hml, hown, hts⟩ (c_X4_newEntryFor l D cA (nm 3 j9) j9 (f 4 j9) (f 5 j9) (f 3 j9) (nm 4 j9) (nm 5 j9) (nm 6 j9) ip1 ip2 (by omega) (by omega) (by omega) (rf j9) (rf j9 ip2) rfl (nm 11 (16 * j9 + ip2)) (f 10 (16 * j9 + ip2))) (cwV 2 hts gX6_isNew_X4_newEntryFor rfl rfl rfl (by decide +kernel) ⟨Nat.le_of_ble_eq_true rfl, Nat.le_of_ble_eq_true rfl⟩) (xPV hK (hL j9 (by omega)) rfl ⟨hL j9 (by omega), hRo j9 (by omega), fun r hr9 => by rcases hR9 with ⟨e1, -⟩ | ⟨e1, -, e3, -⟩; (· rw [e1] at hr9; cases hr9); (· rw [e1] at hr9; cases hr9; exact e3)⟩) rfl rfl hl.1 rfl (lv_room (Nat.le_of_ble_eq_true rfl)) dX6_isNew_60 ⟨Nat.le_of_ble_eq_true rfl, Nat.le_of_ble_eq_true rfl⟩) ?_
          rcases newE (c := ip1) (by omega) hR9 with ⟨e1, e2⟩ | ⟨e1, e2, e3⟩
          · rw [e1]
            refine lv_ifnullN (tgt := 70) hx hb dX6_isNew_63 (by decide) ?_
            refine lv_iconst (v := 0) hx hb dX6_isNew_70 (by decide) ?_
            refine vx_ret ?_
            exact xw_zret hx hb hr hlocks (b := nwF f ip1 ip2 nL) (by unfold nwF; rw [hd9]; show _ = bI (rolF f ip1 (16 * j9 + ip2) none); rw [e2]; rfl) hS ⟨(by simp [kFo, ix_nI (show ip1 < 65536 by omega), ix_nI (show ip2 < 65536 by omega), c_1, c_3]), (by rw [ix_nI (show ip1 < 65536 by omega), ix_nI (show ip2 < 65536 by omega)]), hCS0⟩ (Nat.le_of_ble_eq_true rfl) (Nat.le_of_ble_eq_true rfl) dX6_isNew_71
          · rw [e1]
            refine lv_ifnull hx hb dX6_isNew_63 ?_
            refine lv_iconst (v := 1) hx hb dX6_isNew_66 (by decide) ?_
            refine lv_goto (tgt := 71) hx hb dX6_isNew_67 (by decide) ?_
            refine vx_ret ?_
            exact xw_zret hx hb hr hlocks (b := nwF f ip1 ip2 nL) (by unfold nwF; rw [hd9]; show _ = bI (rolF f ip1 (16 * j9 + ip2) none); rw [e2]; rfl) hS ⟨(by simp [kFo, ix_nI (show ip1 < 65536 by omega), ix_nI (show ip2 < 65536 by omega), c_1, c_3]), (by rw [ix_nI (show ip1 < 65536 by omega), ix_nI (show ip2 < 65536 by omega)]), hCS0⟩ (Nat.le_of_ble_eq_true rfl) (Nat.le_of_ble_eq_true rfl) dX6_isNew_71
