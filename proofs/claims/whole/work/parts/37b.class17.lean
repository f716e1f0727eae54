set_option maxHeartbeats 4000000 in
set_option maxRecDepth 100000 in
theorem c_X6_clients (l : Launch) (hst : l.stackTraces = false) (D : va_G) (cA : Nat → ClassId) (lab : Nat → Nat) (nm : Nat → Nat → Nat) (rf : Nat → Nat → Option Nat) (f : Nat → Nat → Int32) (nC nL nV : Nat) (hi : CRi f nC nL nV) (A : Nat → Prop) (hl9 : CRl A lab nm rf nC nL) (H9 : Heap) : vx_Met l yX6_clients wsX6_clients (rmK 41 3 18) (xPX D cA (fun U => pK A (nm 12 0) U) [.ref (nm 0 0)] (fun H => H = H9 ∧ CRv D cA lab nm rf f nC nL nV H ∧ IQ0 D cA nm H)) (xW (pJ 0 (some (.int (nI nC))) (CS D cA A (nm 12 0) (nm 0 0) f nC nL nV)) A) (xT 0 (fun k => eI) (CS D cA A (nm 12 0) (nm 0 0) f nC nL nV) A) 3 18 A := by
  refine vx_ofW (cc := cX6_clients) (maxL := 1) (ret := (some .int)) (by decide) rfl ?_
  intro p e s m args below meth c s₁ B hml ht hv
  obtain ⟨rfl, ⟨hK, hX⟩, hI⟩ := hv
  have hx := B.exec
  have hb := B.bytes
  have hr := B.returns
  have hts := atoms_spec (ws := wsX6_clients) B.pre
  have hown : s.vm.findClass RX6 = some m.cls := findClass_of_methodNamed B.named
  have hlocks := B.notSynchronized
  have hl := lv_entry ([.ref (nm 0 0)]) (n := 1) (Nat.le_of_ble_eq_true rfl)
  rw [lg_entry_eq]
  generalize (lg_sl ([.ref (nm 0 0)]) ++ List.replicate (1 - (lg_sl ([.ref (nm 0 0)])).length) Slot.unset).toArray = ls at hl ⊢
  have hl : lv_has ls 1 [(0, .ref (nm 0 0))] := hl
  have h_X6 : ∀ w ∈ wsX60, w ∈ wsX6_clients := fun _ h => List.mem_cons_of_mem _ (List.mem_append_left _ (List.mem_append_right _ h))
  have h_Jx4a65c : ∀ w ∈ wsJx4a65c0, w ∈ wsX6_clients := fun _ h => List.mem_cons_of_mem _ (List.mem_append_right _ h)
  obtain ⟨hH9, hI, hIQ⟩ := hI
  subst hH9
  have hV := hI
  have hi0 := hi
  obtain ⟨hT, ⟨mcC, dC, capC, fC, hOC, hQC, hnC, hcC, hfC, -⟩, ⟨mcL, dL, capL, fL, hOL, hQL, hnL, hcL, hfL, -⟩, ⟨mcV, dV, capV, fV, hOV, hQV, hnV, hcV, hfV, -⟩, hC, hL, hHo, hRo, hCh, hRl, hEn⟩ := hI
  obtain ⟨b1, b2, b3, iSel, iGd, iCur, iZero, iLk, iLkA, iLkB⟩ := hi
  have hS : va_S A s.heap s.heap [] := va_S.rf
  have hCS0 : CS D cA A (nm 12 0) (nm 0 0) f nC nL nV s.heap := ⟨lab, nm, rf, hV, hl9, hIQ, rfl, rfl⟩
  refine lv_aload_n hx hb dX6_clients_0 rfl (lv_at hl 0 rfl) ?_
  refine x_get (v := .ref (nm 1 0)) hx hb hts h_X6 hown hK hT rfl 0 (by decide) (hts (.fieldLink RX6 10 "ConfigBeacon" "allClients" "Ljava/util/ArrayList;") (by decide +kernel)) (fun _ h => h) rfl dX6_clients_1 ?_
  refine xr_call (va_runV (As := []) (rest := []) ⟨hx, hb, hml, hown, hts⟩ (c_Jx4a65c_size_8abf5 l D cA (nm 1 0) mcC dC nC) (cwV 0 hts gX6_clients_Jx4a65c_size_8abf5 rfl rfl rfl (by decide +kernel) ⟨Nat.le_of_ble_eq_true rfl, Nat.le_of_ble_eq_true rfl⟩) (xPV hK hOC rfl hOC) rfl rfl hl.1 rfl (lv_room (Nat.le_of_ble_eq_true rfl)) dX6_clients_4 ⟨Nat.le_of_ble_eq_true rfl, Nat.le_of_ble_eq_true rfl⟩) ?_
  refine vx_ret ?_
  exact xw_iret hx hb hr hlocks hS ⟨rfl, rfl, hCS0⟩ (Nat.le_of_ble_eq_true rfl) (Nat.le_of_ble_eq_true rfl) dX6_clients_7
set_option maxHeartbeats 4000000 in
set_option maxRecDepth 100000 in
theorem c_X6_layers (l : Launch) (hst : l.stackTraces = false) (D : va_G) (cA : Nat → ClassId) (lab : Nat → Nat) (nm : Nat → Nat → Nat) (rf : Nat → Nat → Option Nat) (f : Nat → Nat → Int32) (nC nL nV : Nat) (hi : CRi f nC nL nV) (A : Nat → Prop) (hl9 : CRl A lab nm rf nC nL) (H9 : Heap) : vx_Met l yX6_layers wsX6_layers (rmK 41 3 18) (xPX D cA (fun U => pK A (nm 12 0) U) [.ref (nm 0 0)] (fun H => H = H9 ∧ CRv D cA lab nm rf f nC nL nV H ∧ IQ0 D cA nm H)) (xW (pJ 0 (some (.int (nI nL))) (CS D cA A (nm 12 0) (nm 0 0) f nC nL nV)) A) (xT 0 (fun k => eI) (CS D cA A (nm 12 0) (nm 0 0) f nC nL nV) A) 3 18 A := by
  refine vx_ofW (cc := cX6_layers) (maxL := 1) (ret := (some .int)) (by decide) rfl ?_
  intro p e s m args below meth c s₁ B hml ht hv
  obtain ⟨rfl, ⟨hK, hX⟩, hI⟩ := hv
  have hx := B.exec
  have hb := B.bytes
  have hr := B.returns
  have hts := atoms_spec (ws := wsX6_layers) B.pre
  have hown : s.vm.findClass RX6 = some m.cls := findClass_of_methodNamed B.named
  have hlocks := B.notSynchronized
  have hl := lv_entry ([.ref (nm 0 0)]) (n := 1) (Nat.le_of_ble_eq_true rfl)
  rw [lg_entry_eq]
  generalize (lg_sl ([.ref (nm 0 0)]) ++ List.replicate (1 - (lg_sl ([.ref (nm 0 0)])).length) Slot.unset).toArray = ls at hl ⊢
  have hl : lv_has ls 1 [(0, .ref (nm 0 0))] := hl
  have h_X6 : ∀ w ∈ wsX60, w ∈ wsX6_layers := fun _ h => List.mem_cons_of_mem _ (List.mem_append_left _ (List.mem_append_right _ h))
  have h_Jx4a65c : ∀ w ∈ wsJx4a65c0, w ∈ wsX6_layers := fun _ h => List.mem_cons_of_mem _ (List.mem_append_right _ h)
  obtain ⟨hH9, hI, hIQ⟩ := hI
  subst hH9
  have hV := hI
  have hi0 := hi
  obtain ⟨hT, ⟨mcC, dC, capC, fC, hOC, hQC, hnC, hcC, hfC, -⟩, ⟨mcL, dL, capL, fL, hOL, hQL, hnL, hcL, hfL, -⟩, ⟨mcV, dV, capV, fV, hOV, hQV, hnV, hcV, hfV, -⟩, hC, hL, hHo, hRo, hCh, hRl, hEn⟩ := hI
  obtain ⟨b1, b2, b3, iSel, iGd, iCur, iZero, iLk, iLkA, iLkB⟩ := hi
  have hS : va_S A s.heap s.heap [] := va_S.rf
  have hCS0 : CS D cA A (nm 12 0) (nm 0 0) f nC nL nV s.heap := ⟨lab, nm, rf, hV, hl9, hIQ, rfl, rfl⟩
  refine lv_aload_n hx hb dX6_layers_0 rfl (lv_at hl 0 rfl) ?_
  refine x_get (v := .ref (nm 1 1)) hx hb hts h_X6 hown hK hT rfl 1 (by decide) (hts (.fieldLink RX6 16 "ConfigBeacon" "allLayers" "Ljava/util/ArrayList;") (by decide +kernel)) (fun _ h => h) rfl dX6_layers_1 ?_
  refine xr_call (va_runV (As := []) (rest := []) ⟨hx, hb, hml, hown, hts⟩ (c_Jx4a65c_size_8abf5 l D cA (nm 1 1) mcL dL nL) (cwV 0 hts gX6_layers_Jx4a65c_size_8abf5 rfl rfl rfl (by decide +kernel) ⟨Nat.le_of_ble_eq_true rfl, Nat.le_of_ble_eq_true rfl⟩) (xPV hK hOL rfl hOL) rfl rfl hl.1 rfl (lv_room (Nat.le_of_ble_eq_true rfl)) dX6_layers_4 ⟨Nat.le_of_ble_eq_true rfl, Nat.le_of_ble_eq_true rfl⟩) ?_
  refine vx_ret ?_
  exact xw_iret hx hb hr hlocks hS ⟨rfl, rfl, hCS0⟩ (Nat.le_of_ble_eq_true rfl) (Nat.le_of_ble_eq_true rfl) dX6_layers_7
set_option maxHeartbeats 4000000 in
set_option maxRecDepth 100000 in
theorem c_X6_version (l : Launch) (hst : l.stackTraces = false) (D : va_G) (cA : Nat → ClassId) (lab : Nat → Nat) (nm : Nat → Nat → Nat) (rf : Nat → Nat → Option Nat) (f : Nat → Nat → Int32) (nC nL nV : Nat) (hi : CRi f nC nL nV) (A : Nat → Prop) (hl9 : CRl A lab nm rf nC nL) (H9 : Heap) : vx_Met l yX6_version wsX6_version (rmK 41 3 18) (xPX D cA (fun U => pK A (nm 12 0) U) [.ref (nm 0 0)] (fun H => H = H9 ∧ CRv D cA lab nm rf f nC nL nV H ∧ IQ0 D cA nm H)) (xW (pJ 0 (some (.int (nI nV))) (CS D cA A (nm 12 0) (nm 0 0) f nC nL nV)) A) (xT 0 (fun k => eI) (CS D cA A (nm 12 0) (nm 0 0) f nC nL nV) A) 3 18 A := by
  refine vx_ofW (cc := cX6_version) (maxL := 1) (ret := (some .int)) (by decide) rfl ?_
  intro p e s m args below meth c s₁ B hml ht hv
  obtain ⟨rfl, ⟨hK, hX⟩, hI⟩ := hv
  have hx := B.exec
  have hb := B.bytes
  have hr := B.returns
  have hts := atoms_spec (ws := wsX6_version) B.pre
  have hown : s.vm.findClass RX6 = some m.cls := findClass_of_methodNamed B.named
  have hlocks := B.notSynchronized
  have hl := lv_entry ([.ref (nm 0 0)]) (n := 1) (Nat.le_of_ble_eq_true rfl)
  rw [lg_entry_eq]
  generalize (lg_sl ([.ref (nm 0 0)]) ++ List.replicate (1 - (lg_sl ([.ref (nm 0 0)])).length) Slot.unset).toArray = ls at hl ⊢
  have hl : lv_has ls 1 [(0, .ref (nm 0 0))] := hl
  have h_X6 : ∀ w ∈ wsX60, w ∈ wsX6_version := fun _ h => List.mem_cons_of_mem _ (List.mem_append_left _ (List.mem_append_right _ h))
  have h_Jx4a65c : ∀ w ∈ wsJx4a65c0, w ∈ wsX6_version := fun _ h => List.mem_cons_of_mem _ (List.mem_append_right _ h)
  obtain ⟨hH9, hI, hIQ⟩ := hI
  subst hH9
  have hV := hI
  have hi0 := hi
  obtain ⟨hT, ⟨mcC, dC, capC, fC, hOC, hQC, hnC, hcC, hfC, -⟩, ⟨mcL, dL, capL, fL, hOL, hQL, hnL, hcL, hfL, -⟩, ⟨mcV, dV, capV, fV, hOV, hQV, hnV, hcV, hfV, -⟩, hC, hL, hHo, hRo, hCh, hRl, hEn⟩ := hI
  obtain ⟨b1, b2, b3, iSel, iGd, iCur, iZero, iLk, iLkA, iLkB⟩ := hi
  have hS : va_S A s.heap s.heap [] := va_S.rf
  have hCS0 : CS D cA A (nm 12 0) (nm 0 0) f nC nL nV s.heap := ⟨lab, nm, rf, hV, hl9, hIQ, rfl, rfl⟩
  refine lv_aload_n hx hb dX6_version_0 rfl (lv_at hl 0 rfl) ?_
  refine x_get (v := .ref (nm 1 2)) hx hb hts h_X6 hown hK hT rfl 2 (by decide) (hts (.fieldLink RX6 19 "ConfigBeacon" "versions" "Ljava/util/ArrayList;") (by decide +kernel)) (fun _ h => h) rfl dX6_version_1 ?_
  refine xr_call (va_runV (As := []) (rest := []) ⟨hx, hb, hml, hown, hts⟩ (c_Jx4a65c_size_8abf5 l D cA (nm 1 2) mcV dV (nV + 1)) (cwV 0 hts gX6_version_Jx4a65c_size_8abf5 rfl rfl rfl (by decide +kernel) ⟨Nat.le_of_ble_eq_true rfl, Nat.le_of_ble_eq_true rfl⟩) (xPV hK hOV rfl hOV) rfl rfl hl.1 rfl (lv_room (Nat.le_of_ble_eq_true rfl)) dX6_version_4 ⟨Nat.le_of_ble_eq_true rfl, Nat.le_of_ble_eq_true rfl⟩) ?_
  refine lv_iconst (v := 1) hx hb dX6_version_7 (by decide) ?_
  refine xe_isub hx hb (pk_sub (a := nV + 1) (b := 1) (by omega)) dX6_version_8 ?_
  refine vx_ret ?_
  exact xw_iret hx hb hr hlocks hS ⟨rfl, rfl, hCS0⟩ (Nat.le_of_ble_eq_true rfl) (Nat.le_of_ble_eq_true rfl) dX6_version_9
set_option maxHeartbeats 4000000 in
set_option maxRecDepth 100000 in
theorem c_X6_has (l : Launch) (hst : l.stackTraces = false) (D : va_G) (cA : Nat → ClassId) (lab : Nat → Nat) (nm : Nat → Nat → Nat) (rf : Nat → Nat → Option Nat) (f : Nat → Nat → Int32) (nC nL nV : Nat) (hi : CRi f nC nL nV) (A : Nat → Prop) (hl9 : CRl A lab nm rf nC nL) (H9 : Heap) (p1 : Int32) (p2 : Int32) : vx_Met l yX6_has wsX6_has (rmK 41 3 18) (xPX D cA (fun U => pK A (nm 12 0) U) [.ref (nm 0 0), .int p1, .int p2] (fun H => H = H9 ∧ CRv D cA lab nm rf f nC nL nV H ∧ IQ0 D cA nm H)) (xW (pJ (kCe nL p1 p2) (some (.int (bI (decide (0 < f 7 (cl p1 p2)))))) (CS D cA A (nm 12 0) (nm 0 0) f nC nL nV)) A) (xT (kCe nL p1 p2) (fun k => eI) (CS D cA A (nm 12 0) (nm 0 0) f nC nL nV) A) 3 18 A := by
  refine vx_ofW (cc := cX6_has) (maxL := 3) (ret := (some .boolean)) (by decide) rfl ?_
  intro p e s m args below meth c s₁ B hml ht hv
  obtain ⟨rfl, ⟨hK, hX⟩, hI⟩ := hv
  have hx := B.exec
  have hb := B.bytes
  have hr := B.returns
  have hts := atoms_spec (ws := wsX6_has) B.pre
  have hown : s.vm.findClass RX6 = some m.cls := findClass_of_methodNamed B.named
  have hlocks := B.notSynchronized
  have hl := lv_entry ([.ref (nm 0 0), .int p1, .int p2]) (n := 3) (Nat.le_of_ble_eq_true rfl)
  rw [lg_entry_eq]
  generalize (lg_sl ([.ref (nm 0 0), .int p1, .int p2]) ++ List.replicate (3 - (lg_sl ([.ref (nm 0 0), .int p1, .int p2])).length) Slot.unset).toArray = ls at hl ⊢
  have hl : lv_has ls 3 [(0, .ref (nm 0 0)), (1, .int p1), (2, .int p2)] := hl
  have h_X1 : ∀ w ∈ wsX10, w ∈ wsX6_has := fun _ h => List.mem_cons_of_mem _ (List.mem_append_left _ (List.mem_append_right _ h))
  have h_X6 : ∀ w ∈ wsX60, w ∈ wsX6_has := fun _ h => List.mem_cons_of_mem _ (List.mem_append_left _ (List.mem_append_left _ (List.mem_append_left _ (List.mem_append_right _ h))))
  have h_Jx4a65c : ∀ w ∈ wsJx4a65c0, w ∈ wsX6_has := fun _ h => List.mem_cons_of_mem _ (List.mem_append_left _ (List.mem_append_left _ (List.mem_append_right _ h)))
  obtain ⟨hH9, hI, hIQ⟩ := hI
  subst hH9
  have hV := hI
  have hi0 := hi
  obtain ⟨hT, ⟨mcC, dC, capC, fC, hOC, hQC, hnC, hcC, hfC, -⟩, ⟨mcL, dL, capL, fL, hOL, hQL, hnL, hcL, hfL, -⟩, ⟨mcV, dV, capV, fV, hOV, hQV, hnV, hcV, hfV, -⟩, hC, hL, hHo, hRo, hCh, hRl, hEn⟩ := hI
  obtain ⟨b1, b2, b3, iSel, iGd, iCur, iZero, iLk, iLkA, iLkB⟩ := hi
  have hS : va_S A s.heap s.heap [] := va_S.rf
  have hCS0 : CS D cA A (nm 12 0) (nm 0 0) f nC nL nV s.heap := ⟨lab, nm, rf, hV, hl9, hIQ, rfl, rfl⟩
  obtain ⟨ea9, ge9, hEo, hEq, hEr, -⟩ := hEn nV (Nat.le_refl _)
  refine lv_aload_n hx hb dX6_has_0 rfl (lv_at hl 0 rfl) ?_
  refine lv_iload_n hx hb dX6_has_1 rfl (lv_at hl 1 rfl) ?_
  refine lv_iload_n hx hb dX6_has_2 rfl (lv_at hl 2 rfl) ?_
  refine xr_call (va_runV (As := [.int p1, .int p2]) (rest := []) ⟨hx, hb, hml, hown, hts⟩ (c_X6_isCell l D cA lab nm rf f nC nL nV (⟨b1, b2, b3, iSel, iGd, iCur, iZero, iLk, iLkA, iLkB⟩) p1 p2) (cwV 2 hts gX6_has_X6_isCell rfl rfl rfl (by decide +kernel) ⟨Nat.le_of_ble_eq_true rfl, Nat.le_of_ble_eq_true rfl⟩) (xPV hK hT rfl hV) rfl rfl hl.1 rfl (lv_room (Nat.le_of_ble_eq_true rfl)) dX6_has_3 ⟨Nat.le_of_ble_eq_true rfl, Nat.le_of_ble_eq_true rfl⟩) ?_
  refine xx_check (E0 := eI) (vx_runS (As := [.int (bI (okN nL p1 && okS p2))]) (rest := []) ⟨hx, hb, hml, hown, hts⟩ (c_X6_checkThere l hst D cA A (okN nL p1 && okS p2) (bI (okN nL p1 && okS p2)) rfl) (va_cwS 1 hts gX6_has_X6_checkThere rfl rfl rfl (by decide +kernel) ⟨Nat.le_of_ble_eq_true rfl, Nat.le_of_ble_eq_true rfl⟩) (xPXS hK tK.blind (fun U hU hW => hX.2.at hS (fun _ h => h) hU hW) trivial) rfl rfl hl.1 rfl (lv_room (Nat.le_of_ble_eq_true rfl)) dX6_has_6 ⟨Nat.le_of_ble_eq_true rfl, Nat.le_of_ble_eq_true rfl⟩) hS (fun b_1 ce q9 H1 z1 k1 hS1 g1 g2 g3 => ?_) (fun b_1 => ?_)
  · have hk9 : kCe nL p1 p2 = 1 := by simp [kCe, b_1]
    exact vx_out (fun x hx => (ht x hx).elim) hlocks g1 g2 g3 (fun t ht9 _ => ⟨by rw [hk9]; decide, by rw [hk9] <;> rfl, by rw [ht9]; exact hCS0.same (fun q h1 _ => k1 q h1), hS1.F ht9⟩) hS1.2.2 (Nat.le_of_ble_eq_true rfl) (Nat.le_of_ble_eq_true rfl)
  · have _b_1 := b_1
    obtain ⟨ip1, hip1, ep1⟩ := okN_of (n := nL) (v := p1) (by omega) (by have h9 := b_1; (try simp only [Bool.and_eq_true] at h9); simp [h9])
    subst ep1
    obtain ⟨ip2, hip2, ep2⟩ := okS_of (v := p2) (by have h9 := b_1; (try simp only [Bool.and_eq_true] at h9); simp [h9])
    subst ep2
    refine lv_aload_n hx hb dX6_has_9 rfl (lv_at hl 0 rfl) ?_
    refine x_get (v := .ref (nm 7 nV)) hx hb hts h_X6 hown hK hT rfl 4 (by decide) (hts (.fieldLink RX6 32 "ConfigBeacon" "current" "LConfigBeacon$Entries;") (by decide +kernel)) (fun _ h => h) rfl dX6_has_10 ?_
    refine lv_iload_n hx hb dX6_has_13 rfl (lv_at hl 1 rfl) ?_
    refine lv_iload_n hx hb dX6_has_14 rfl (lv_at hl 2 rfl) ?_
    refine xr_call (va_runV (As := [.int (nI ip1), .int (nI ip2)]) (rest := []) ⟨hx, hb, hml, hown, hts⟩ (c_X1_entryOf l D cA (nm 7 nV) ea9 ge9 ip1 ip2 (by omega) (by omega) (ge9 (16 * ip1 + ip2)) rfl) (cwV 2 hts gX6_has_X1_entryOf rfl rfl rfl (by decide +kernel) ⟨Nat.le_of_ble_eq_true rfl, Nat.le_of_ble_eq_true rfl⟩) (xPV hK hEo rfl ⟨hEo, hEq⟩) rfl rfl hl.1 rfl (lv_room (Nat.le_of_ble_eq_true rfl)) dX6_has_15 ⟨Nat.le_of_ble_eq_true rfl, Nat.le_of_ble_eq_true rfl⟩) ?_
    have hE9 : eR D (ge9 (16 * ip1 + ip2)) (f 12 (128 * nV + (16 * ip1 + ip2))) s.heap := hEr (16 * ip1 + ip2) (by omega)
    cases hg9 : (ge9 (16 * ip1 + ip2)) with
    | none =>
      rw [hg9] at hE9
      refine lv_ifnullN (tgt := 25) hx hb dX6_has_18 (by decide) ?_
      refine lv_iconst (v := 0) hx hb dX6_has_25 (by decide) ?_
      refine vx_ret ?_
      exact xw_zret hx hb hr hlocks (b := decide (0 < f 7 (16 * ip1 + ip2))) (by rw [iCur _ (by omega)]; rw [hE9.n.mp rfl]; rfl) hS ⟨(by simp [kCe, b_1]), congrArg (fun z => some (Value.int (bI (decide (0 < f 7 z))))) (cl_nI (by omega) (by omega)).symm, hCS0⟩ (Nat.le_of_ble_eq_true rfl) (Nat.le_of_ble_eq_true rfl) dX6_has_26
    | some q9 =>
      rw [hg9] at hE9
      refine lv_ifnull hx hb dX6_has_18 ?_
      refine lv_iconst (v := 1) hx hb dX6_has_21 (by decide) ?_
      refine lv_goto (tgt := 26) hx hb dX6_has_22 (by decide) ?_
      refine vx_ret ?_
      exact xw_zret hx hb hr hlocks (b := decide (0 < f 7 (16 * ip1 + ip2))) (by rw [iCur _ (by omega)]; rw [decide_eq_true (hE9.gd.pos.mpr (fun q => by have := hE9.n.mpr q; cases this))]; rfl) hS ⟨(by simp [kCe, b_1]), congrArg (fun z => some (Value.int (bI (decide (0 < f 7 z))))) (cl_nI (by omega) (by omega)).symm, hCS0⟩ (Nat.le_of_ble_eq_true rfl) (Nat.le_of_ble_eq_true rfl) dX6_has_26
set_option maxHeartbeats 4000000 in
set_option maxRecDepth 100000 in
theorem c_X6_changedAt (l : Launch) (hst : l.stackTraces = false) (D : va_G) (cA : Nat → ClassId) (lab : Nat → Nat) (nm : Nat → Nat → Nat) (rf : Nat → Nat → Option Nat) (f : Nat → Nat → Int32) (nC nL nV : Nat) (hi : CRi f nC nL nV) (A : Nat → Prop) (hl9 : CRl A lab nm rf nC nL) (H9 : Heap) (p1 : Int32) (p2 : Int32) : vx_Met l yX6_changedAt wsX6_changedAt (rmK 41 3 18) (xPX D cA (fun U => pK A (nm 12 0) U) [.ref (nm 0 0), .int p1, .int p2] (fun H => H = H9 ∧ CRv D cA lab nm rf f nC nL nV H ∧ IQ0 D cA nm H)) (xW (pJ (kCe nL p1 p2) (some (.int (f 8 (cl p1 p2)))) (CS D cA A (nm 12 0) (nm 0 0) f nC nL nV)) A) (xT (kCe nL p1 p2) (fun k => eI) (CS D cA A (nm 12 0) (nm 0 0) f nC nL nV) A) 3 18 A := by
  refine vx_ofW (cc := cX6_changedAt) (maxL := 3) (ret := (some .int)) (by decide) rfl ?_
  intro p e s m args below meth c s₁ B hml ht hv
  obtain ⟨rfl, ⟨hK, hX⟩, hI⟩ := hv
  have hx := B.exec
  have hb := B.bytes
  have hr := B.returns
  have hts := atoms_spec (ws := wsX6_changedAt) B.pre
  have hown : s.vm.findClass RX6 = some m.cls := findClass_of_methodNamed B.named
  have hlocks := B.notSynchronized
  have hl := lv_entry ([.ref (nm 0 0), .int p1, .int p2]) (n := 3) (Nat.le_of_ble_eq_true rfl)
  rw [lg_entry_eq]
  generalize (lg_sl ([.ref (nm 0 0), .int p1, .int p2]) ++ List.replicate (3 - (lg_sl ([.ref (nm 0 0), .int p1, .int p2])).length) Slot.unset).toArray = ls at hl ⊢
  have hl : lv_has ls 3 [(0, .ref (nm 0 0)), (1, .int p1), (2, .int p2)] := hl
  have h_X4 : ∀ w ∈ wsX40, w ∈ wsX6_changedAt := fun _ h => List.mem_cons_of_mem _ (List.mem_append_left _ (List.mem_append_left _ (List.mem_append_right _ h)))
  have h_X6 : ∀ w ∈ wsX60, w ∈ wsX6_changedAt := fun _ h => List.mem_cons_of_mem _ (List.mem_append_left _ (List.mem_append_left _ (List.mem_append_left _ (List.mem_append_right _ h))))
  have h_Jx4a65c : ∀ w ∈ wsJx4a65c0, w ∈ wsX6_changedAt := fun _ h => List.mem_cons_of_mem _ (List.mem_append_left _ (List.mem_append_right _ h))
  obtain ⟨hH9, hI, hIQ⟩ := hI
  subst hH9
  have hV := hI
  have hi0 := hi
  obtain ⟨hT, ⟨mcC, dC, capC, fC, hOC, hQC, hnC, hcC, hfC, -⟩, ⟨mcL, dL, capL, fL, hOL, hQL, hnL, hcL, hfL, -⟩, ⟨mcV, dV, capV, fV, hOV, hQV, hnV, hcV, hfV, -⟩, hC, hL, hHo, hRo, hCh, hRl, hEn⟩ := hI
  obtain ⟨b1, b2, b3, iSel, iGd, iCur, iZero, iLk, iLkA, iLkB⟩ := hi
  have hS : va_S A s.heap s.heap [] := va_S.rf
  have hCS0 : CS D cA A (nm 12 0) (nm 0 0) f nC nL nV s.heap := ⟨lab, nm, rf, hV, hl9, hIQ, rfl, rfl⟩
  refine lv_aload_n hx hb dX6_changedAt_0 rfl (lv_at hl 0 rfl) ?_
  refine lv_iload_n hx hb dX6_changedAt_1 rfl (lv_at hl 1 rfl) ?_
  refine lv_iload_n hx hb dX6_changedAt_2 rfl (lv_at hl 2 rfl) ?_
  refine xr_call (va_runV (As := [.int p1, .int p2]) (rest := []) ⟨hx, hb, hml, hown, hts⟩ (c_X6_isCell l D cA lab nm rf f nC nL nV (⟨b1, b2, b3, iSel, iGd, iCur, iZero, iLk, iLkA, iLkB⟩) p1 p2) (cwV 2 hts gX6_changedAt_X6_isCell rfl rfl rfl (by decide +kernel) ⟨Nat.le_of_ble_eq_true rfl, Nat.le_of_ble_eq_true rfl⟩) (xPV hK hT rfl hV) rfl rfl hl.1 rfl (lv_room (Nat.le_of_ble_eq_true rfl)) dX6_changedAt_3 ⟨Nat.le_of_ble_eq_true rfl, Nat.le_of_ble_eq_true rfl⟩) ?_
  refine xx_check (E0 := eI) (vx_runS (As := [.int (bI (okN nL p1 && okS p2))]) (rest := []) ⟨hx, hb, hml, hown, hts⟩ (c_X6_checkThere l hst D cA A (okN nL p1 && okS p2) (bI (okN nL p1 && okS p2)) rfl) (va_cwS 1 hts gX6_changedAt_X6_checkThere rfl rfl rfl (by decide +kernel) ⟨Nat.le_of_ble_eq_true rfl, Nat.le_of_ble_eq_true rfl⟩) (xPXS hK tK.blind (fun U hU hW => hX.2.at hS (fun _ h => h) hU hW) trivial) rfl rfl hl.1 rfl (lv_room (Nat.le_of_ble_eq_true rfl)) dX6_changedAt_6 ⟨Nat.le_of_ble_eq_true rfl, Nat.le_of_ble_eq_true rfl⟩) hS (fun b_1 ce q9 H1 z1 k1 hS1 g1 g2 g3 => ?_) (fun b_1 => ?_)
  · have hk9 : kCe nL p1 p2 = 1 := by simp [kCe, b_1]
    exact vx_out (fun x hx => (ht x hx).elim) hlocks g1 g2 g3 (fun t ht9 _ => ⟨by rw [hk9]; decide, by rw [hk9] <;> rfl, by rw [ht9]; exact hCS0.same (fun q h1 _ => k1 q h1), hS1.F ht9⟩) hS1.2.2 (Nat.le_of_ble_eq_true rfl) (Nat.le_of_ble_eq_true rfl)
  · have _b_1 := b_1
    obtain ⟨ip1, hip1, ep1⟩ := okN_of (n := nL) (v := p1) (by omega) (by have h9 := b_1; (try simp only [Bool.and_eq_true] at h9); simp [h9])
    subst ep1
    obtain ⟨ip2, hip2, ep2⟩ := okS_of (v := p2) (by have h9 := b_1; (try simp only [Bool.and_eq_true] at h9); simp [h9])
    subst ep2
    refine lv_aload_n hx hb dX6_changedAt_9 rfl (lv_at hl 0 rfl) ?_
    refine x_get (v := .ref (nm 1 1)) hx hb hts h_X6 hown hK hT rfl 1 (by decide) (hts (.fieldLink RX6 16 "ConfigBeacon" "allLayers" "Ljava/util/ArrayList;") (by decide +kernel)) (fun _ h => h) rfl dX6_changedAt_10 ?_
    refine lv_iload_n hx hb dX6_changedAt_13 rfl (lv_at hl 1 rfl) ?_
    refine xr_call (va_runV (As := [.int (nI ip1)]) (rest := []) ⟨hx, hb, hml, hown, hts⟩ (c_Jx4a65c_get_915e3 l D cA (nm 1 1) mcL dL nL capL fL ip1 (by omega) hnL hcL (some (nm 3 ip1)) (hfL ip1 (by omega))) (cwV 1 hts gX6_changedAt_Jx4a65c_get_915e3 rfl rfl rfl (by decide +kernel) ⟨Nat.le_of_ble_eq_true rfl, Nat.le_of_ble_eq_true rfl⟩) (xPV hK hOL rfl ⟨hOL, hQL (by omega)⟩) rfl rfl hl.1 rfl (lv_room (Nat.le_of_ble_eq_true rfl)) dX6_changedAt_14 ⟨Nat.le_of_ble_eq_true rfl, Nat.le_of_ble_eq_true rfl⟩) ?_
    refine x_cast hx hb hown (hts (.classLink RX6 84 "ConfigBeacon$Layer") (by decide +kernel)) hK (hL ip1 (by omega)) rfl dX6_changedAt_17 ?_
    refine x_getN (v := .ref (nm 6 ip1)) hx hb hts h_X4 hown hK (hL ip1 (by omega)) rfl 6 (by decide) (va_Nw.use rfl (hK.2.2.1 ("ConfigBeacon", 190, "ConfigBeacon$Layer", "changes", "[I") (by decide))) (fun _ h => h) rfl dX6_changedAt_20 ?_
    refine lv_iload_n hx hb dX6_changedAt_23 rfl (lv_at hl 2 rfl) ?_
    refine x_iald hx hb hK (hCh ip1 (by omega)) ip2 rfl (by omega) (by decide) dX6_changedAt_24 ?_
    refine vx_ret ?_
    exact xw_iret hx hb hr hlocks hS ⟨(by simp [kCe, b_1]), congrArg (fun z => some (Value.int (f 8 z))) (cl_nI (by omega) (by omega)).symm, hCS0⟩ (Nat.le_of_ble_eq_true rfl) (Nat.le_of_ble_eq_true rfl) dX6_changedAt_25
set_option maxHeartbeats 4000000 in
set_option maxRecDepth 100000 in
theorem c_X6_shareOf (l : Launch) (hst : l.stackTraces = false) (D : va_G) (cA : Nat → ClassId) (lab : Nat → Nat) (nm : Nat → Nat → Nat) (rf : Nat → Nat → Option Nat) (f : Nat → Nat → Int32) (nC nL nV : Nat) (hi : CRi f nC nL nV) (A : Nat → Prop) (hl9 : CRl A lab nm rf nC nL) (H9 : Heap) (p1 : Int32) (p2 : Int32) : vx_Met l yX6_shareOf wsX6_shareOf (rmK 41 3 18) (xPX D cA (fun U => pK A (nm 12 0) U) [.ref (nm 0 0), .int p1, .int p2] (fun H => H = H9 ∧ CRv D cA lab nm rf f nC nL nV H ∧ IQ0 D cA nm H)) (xW (pJ (kCe nL p1 p2) (some (.int (f 10 (cl p1 p2)))) (CS D cA A (nm 12 0) (nm 0 0) f nC nL nV)) A) (xT (kCe nL p1 p2) (fun k => eI) (CS D cA A (nm 12 0) (nm 0 0) f nC nL nV) A) 3 18 A := by
  refine vx_ofW (cc := cX6_shareOf) (maxL := 4) (ret := (some .int)) (by decide) rfl ?_
  intro p e s m args below meth c s₁ B hml ht hv
  obtain ⟨rfl, ⟨hK, hX⟩, hI⟩ := hv
  have hx := B.exec
  have hb := B.bytes
  have hr := B.returns
  have hts := atoms_spec (ws := wsX6_shareOf) B.pre
  have hown : s.vm.findClass RX6 = some m.cls := findClass_of_methodNamed B.named
  have hlocks := B.notSynchronized
  have hl := lv_entry ([.ref (nm 0 0), .int p1, .int p2]) (n := 4) (Nat.le_of_ble_eq_true rfl)
  rw [lg_entry_eq]
  generalize (lg_sl ([.ref (nm 0 0), .int p1, .int p2]) ++ List.replicate (4 - (lg_sl ([.ref (nm 0 0), .int p1, .int p2])).length) Slot.unset).toArray = ls at hl ⊢
  have hl : lv_has ls 4 [(0, .ref (nm 0 0)), (1, .int p1), (2, .int p2)] := hl
  have h_X4 : ∀ w ∈ wsX40, w ∈ wsX6_shareOf := fun _ h => List.mem_cons_of_mem _ (List.mem_append_left _ (List.mem_append_left _ (List.mem_append_left _ (List.mem_append_right _ h))))
  have h_X5 : ∀ w ∈ wsX50, w ∈ wsX6_shareOf := fun _ h => List.mem_cons_of_mem _ (List.mem_append_left _ (List.mem_append_left _ (List.mem_append_right _ h)))
  have h_X6 : ∀ w ∈ wsX60, w ∈ wsX6_shareOf := fun _ h => List.mem_cons_of_mem _ (List.mem_append_left _ (List.mem_append_left _ (List.mem_append_left _ (List.mem_append_left _ (List.mem_append_right _ h)))))
  have h_Jx4a65c : ∀ w ∈ wsJx4a65c0, w ∈ wsX6_shareOf := fun _ h => List.mem_cons_of_mem _ (List.mem_append_left _ (List.mem_append_right _ h))
  obtain ⟨hH9, hI, hIQ⟩ := hI
  subst hH9
  have hV := hI
  have hi0 := hi
  obtain ⟨hT, ⟨mcC, dC, capC, fC, hOC, hQC, hnC, hcC, hfC, -⟩, ⟨mcL, dL, capL, fL, hOL, hQL, hnL, hcL, hfL, -⟩, ⟨mcV, dV, capV, fV, hOV, hQV, hnV, hcV, hfV, -⟩, hC, hL, hHo, hRo, hCh, hRl, hEn⟩ := hI
  obtain ⟨b1, b2, b3, iSel, iGd, iCur, iZero, iLk, iLkA, iLkB⟩ := hi
  have hS : va_S A s.heap s.heap [] := va_S.rf
  have hCS0 : CS D cA A (nm 12 0) (nm 0 0) f nC nL nV s.heap := ⟨lab, nm, rf, hV, hl9, hIQ, rfl, rfl⟩
  refine lv_aload_n hx hb dX6_shareOf_0 rfl (lv_at hl 0 rfl) ?_
  refine lv_iload_n hx hb dX6_shareOf_1 rfl (lv_at hl 1 rfl) ?_
  refine lv_iload_n hx hb dX6_shareOf_2 rfl (lv_at hl 2 rfl) ?_
  refine xr_call (va_runV (As := [.int p1, .int p2]) (rest := []) ⟨hx, hb, hml, hown, hts⟩ (c_X6_isCell l D cA lab nm rf f nC nL nV (⟨b1, b2, b3, iSel, iGd, iCur, iZero, iLk, iLkA, iLkB⟩) p1 p2) (cwV 2 hts gX6_shareOf_X6_isCell rfl rfl rfl (by decide +kernel) ⟨Nat.le_of_ble_eq_true rfl, Nat.le_of_ble_eq_true rfl⟩) (xPV hK hT rfl hV) rfl rfl hl.1 rfl (lv_room (Nat.le_of_ble_eq_true rfl)) dX6_shareOf_3 ⟨Nat.le_of_ble_eq_true rfl, Nat.le_of_ble_eq_true rfl⟩) ?_
  refine xx_check (E0 := eI) (vx_runS (As := [.int (bI (okN nL p1 && okS p2))]) (rest := []) ⟨hx, hb, hml, hown, hts⟩ (c_X6_checkThere l hst D cA A (okN nL p1 && okS p2) (bI (okN nL p1 && okS p2)) rfl) (va_cwS 1 hts gX6_shareOf_X6_checkThere rfl rfl rfl (by decide +kernel) ⟨Nat.le_of_ble_eq_true rfl, Nat.le_of_ble_eq_true rfl⟩) (xPXS hK tK.blind (fun U hU hW => hX.2.at hS (fun _ h => h) hU hW) trivial) rfl rfl hl.1 rfl (lv_room (Nat.le_of_ble_eq_true rfl)) dX6_shareOf_6 ⟨Nat.le_of_ble_eq_true rfl, Nat.le_of_ble_eq_true rfl⟩) hS (fun b_1 ce q9 H1 z1 k1 hS1 g1 g2 g3 => ?_) (fun b_1 => ?_)
  · have hk9 : kCe nL p1 p2 = 1 := by simp [kCe, b_1]
    exact vx_out (fun x hx => (ht x hx).elim) hlocks g1 g2 g3 (fun t ht9 _ => ⟨by rw [hk9]; decide, by rw [hk9] <;> rfl, by rw [ht9]; exact hCS0.same (fun q h1 _ => k1 q h1), hS1.F ht9⟩) hS1.2.2 (Nat.le_of_ble_eq_true rfl) (Nat.le_of_ble_eq_true rfl)
  · have _b_1 := b_1
    obtain ⟨ip1, hip1, ep1⟩ := okN_of (n := nL) (v := p1) (by omega) (by have h9 := b_1; (try simp only [Bool.and_eq_true] at h9); simp [h9])
    subst ep1
    obtain ⟨ip2, hip2, ep2⟩ := okS_of (v := p2) (by have h9 := b_1; (try simp only [Bool.and_eq_true] at h9); simp [h9])
    subst ep2
    refine lv_aload_n hx hb dX6_shareOf_9 rfl (lv_at hl 0 rfl) ?_
    refine x_get (v := .ref (nm 1 1)) hx hb hts h_X6 hown hK hT rfl 1 (by decide) (hts (.fieldLink RX6 16 "ConfigBeacon" "allLayers" "Ljava/util/ArrayList;") (by decide +kernel)) (fun _ h => h) rfl dX6_shareOf_10 ?_
    refine lv_iload_n hx hb dX6_shareOf_13 rfl (lv_at hl 1 rfl) ?_
    refine xr_call (va_runV (As := [.int (nI ip1)]) (rest := []) ⟨hx, hb, hml, hown, hts⟩ (c_Jx4a65c_get_915e3 l D cA (nm 1 1) mcL dL nL capL fL ip1 (by omega) hnL hcL (some (nm 3 ip1)) (hfL ip1 (by omega))) (cwV 1 hts gX6_shareOf_Jx4a65c_get_915e3 rfl rfl rfl (by decide +kernel) ⟨Nat.le_of_ble_eq_true rfl, Nat.le_of_ble_eq_true rfl⟩) (xPV hK hOL rfl ⟨hOL, hQL (by omega)⟩) rfl rfl hl.1 rfl (lv_room (Nat.le_of_ble_eq_true rfl)) dX6_shareOf_14 ⟨Nat.le_of_ble_eq_true rfl, Nat.le_of_ble_eq_true rfl⟩) ?_
    refine x_cast hx hb hown (hts (.classLink RX6 84 "ConfigBeacon$Layer") (by decide +kernel)) hK (hL ip1 (by omega)) rfl dX6_shareOf_17 ?_
    refine x_getN (v := .ref (nm 5 ip1)) hx hb hts h_X4 hown hK (hL ip1 (by omega)) rfl 5 (by decide) (va_Nw.use rfl (hK.2.2.1 ("ConfigBeacon", 141, "ConfigBeacon$Layer", "rollouts", "[LConfigBeacon$Rollout;") (by decide))) (fun _ h => h) rfl dX6_shareOf_20 ?_
    refine lv_iload_n hx hb dX6_shareOf_23 rfl (lv_at hl 2 rfl) ?_
    rcases hRl ip1 ip2 (by omega) (by omega) with ⟨e1, e2⟩ | ⟨e1, e2, hR5, hR6⟩
    · refine x_aald hx hb hK 3 rfl (hRo ip1 (by omega)) ip2 rfl (by omega) (by decide) (v := none) e1 dX6_shareOf_24 ?_
      refine lv_astore_nN (lv' := [(3, .null), (0, .ref (nm 0 0)), (1, .int (nI ip1)), (2, .int (nI ip2))]) hx hb dX6_shareOf_25 rfl hl (by decide) rfl (fun ls hl => ?_)
      refine lv_aload_nN hx hb dX6_shareOf_26 rfl (lv_at hl 0 rfl) ?_
      refine lv_ifnonnullN hx hb dX6_shareOf_27 ?_
      refine lv_iconst (v := (-1)) hx hb dX6_shareOf_30 (by decide) ?_
      refine lv_goto (tgt := 38) hx hb dX6_shareOf_31 (by decide) ?_
      refine vx_ret ?_
      exact xw_iret hx hb hr hlocks hS ⟨(by simp [kCe, b_1]), (by rw [cl_nI (by omega) (by omega), e2]), hCS0⟩ (Nat.le_of_ble_eq_true rfl) (Nat.le_of_ble_eq_true rfl) dX6_shareOf_38
    · refine x_aald hx hb hK 3 rfl (hRo ip1 (by omega)) ip2 rfl (by omega) (by decide) (v := some (nm 10 (16 * ip1 + ip2))) e1 dX6_shareOf_24 ?_
      refine lv_astore_n (lv' := [(3, .ref (nm 10 (16 * ip1 + ip2))), (0, .ref (nm 0 0)), (1, .int (nI ip1)), (2, .int (nI ip2))]) hx hb dX6_shareOf_25 rfl hl (by decide) rfl (fun ls hl => ?_)
      refine lv_aload_n hx hb dX6_shareOf_26 rfl (lv_at hl 0 rfl) ?_
      refine lv_ifnonnull (tgt := 34) hx hb dX6_shareOf_27 (by decide) ?_
      refine lv_aload_n hx hb dX6_shareOf_34 rfl (lv_at hl 0 rfl) ?_
      refine x_getN (v := .int (f 10 (16 * ip1 + ip2))) hx hb hts h_X5 hown hK hR5 rfl 1 (by decide) (va_Nw.use rfl (hK.2.2.1 ("ConfigBeacon", 156, "ConfigBeacon$Rollout", "share", "I") (by decide))) (fun _ h => h) rfl dX6_shareOf_35 ?_
      refine vx_ret ?_
      exact xw_iret hx hb hr hlocks hS ⟨(by simp [kCe, b_1]), congrArg (fun z => some (Value.int (f 10 z))) (cl_nI (by omega) (by omega)).symm, hCS0⟩ (Nat.le_of_ble_eq_true rfl) (Nat.le_of_ble_eq_true rfl) dX6_shareOf_38
set_option maxHeartbeats 4000000 in
set_option maxRecDepth 100000 in
theorem c_X6_isLocked (l : Launch) (hst : l.stackTraces = false) (D : va_G) (cA : Nat → ClassId) (lab : Nat → Nat) (nm : Nat → Nat → Nat) (rf : Nat → Nat → Option Nat) (f : Nat → Nat → Int32) (nC nL nV : Nat) (hi : CRi f nC nL nV) (A : Nat → Prop) (hl9 : CRl A lab nm rf nC nL) (H9 : Heap) (p1 : Int32) (p2 : Int32) (p3 : Int32) : vx_Met l yX6_isLocked wsX6_isLocked (rmK 41 3 18) (xPX D cA (fun U => pK A (nm 12 0) U) [.ref (nm 0 0), .int p1, .int p2, .int p3] (fun H => H = H9 ∧ CRv D cA lab nm rf f nC nL nV H ∧ IQ0 D cA nm H)) (xW (pJ (kIL nL p1 p2 p3) (some (.int (bI (lckF (f 11) (cl p1 p2) p3)))) (CS D cA A (nm 12 0) (nm 0 0) f nC nL nV)) A) (xT (kIL nL p1 p2 p3) (fun k => (if k = 1 then eI else eA)) (CS D cA A (nm 12 0) (nm 0 0) f nC nL nV) A) 3 18 A := by
  refine vx_ofW (cc := cX6_isLocked) (maxL := 4) (ret := (some .boolean)) (by decide) rfl ?_
  intro p e s m args below meth c s₁ B hml ht hv
  obtain ⟨rfl, ⟨hK, hX⟩, hI⟩ := hv
  have hx := B.exec
  have hb := B.bytes
  have hr := B.returns
  have hts := atoms_spec (ws := wsX6_isLocked) B.pre
  have hown : s.vm.findClass RX6 = some m.cls := findClass_of_methodNamed B.named
  have hlocks := B.notSynchronized
  have hl := lv_entry ([.ref (nm 0 0), .int p1, .int p2, .int p3]) (n := 4) (Nat.le_of_ble_eq_true rfl)
  rw [lg_entry_eq]
  generalize (lg_sl ([.ref (nm 0 0), .int p1, .int p2, .int p3]) ++ List.replicate (4 - (lg_sl ([.ref (nm 0 0), .int p1, .int p2, .int p3])).length) Slot.unset).toArray = ls at hl ⊢
  have hl : lv_has ls 4 [(0, .ref (nm 0 0)), (1, .int p1), (2, .int p2), (3, .int p3)] := hl
  have h_X4 : ∀ w ∈ wsX40, w ∈ wsX6_isLocked := fun _ h => List.mem_cons_of_mem _ (List.mem_append_left _ (List.mem_append_left _ (List.mem_append_right _ h)))
  have h_X6 : ∀ w ∈ wsX60, w ∈ wsX6_isLocked := fun _ h => List.mem_cons_of_mem _ (List.mem_append_left _ (List.mem_append_left _ (List.mem_append_left _ (List.mem_append_left _ (List.mem_append_right _ h)))))
  have h_Jx4a65c : ∀ w ∈ wsJx4a65c0, w ∈ wsX6_isLocked := fun _ h => List.mem_cons_of_mem _ (List.mem_append_left _ (List.mem_append_left _ (List.mem_append_left _ (List.mem_append_right _ h))))
  obtain ⟨hH9, hI, hIQ⟩ := hI
  subst hH9
  have hV := hI
  have hi0 := hi
  obtain ⟨hT, ⟨mcC, dC, capC, fC, hOC, hQC, hnC, hcC, hfC, -⟩, ⟨mcL, dL, capL, fL, hOL, hQL, hnL, hcL, hfL, -⟩, ⟨mcV, dV, capV, fV, hOV, hQV, hnV, hcV, hfV, -⟩, hC, hL, hHo, hRo, hCh, hRl, hEn⟩ := hI
  obtain ⟨b1, b2, b3, iSel, iGd, iCur, iZero, iLk, iLkA, iLkB⟩ := hi
  have hS : va_S A s.heap s.heap [] := va_S.rf
  have hCS0 : CS D cA A (nm 12 0) (nm 0 0) f nC nL nV s.heap := ⟨lab, nm, rf, hV, hl9, hIQ, rfl, rfl⟩
  refine lv_aload_n hx hb dX6_isLocked_0 rfl (lv_at hl 0 rfl) ?_
  refine lv_iload_n hx hb dX6_isLocked_1 rfl (lv_at hl 1 rfl) ?_
  refine lv_iload_n hx hb dX6_isLocked_2 rfl (lv_at hl 2 rfl) ?_
  refine xr_call (va_runV (As := [.int p1, .int p2]) (rest := []) ⟨hx, hb, hml, hown, hts⟩ (c_X6_isCell l D cA lab nm rf f nC nL nV (⟨b1, b2, b3, iSel, iGd, iCur, iZero, iLk, iLkA, iLkB⟩) p1 p2) (cwV 2 hts gX6_isLocked_X6_isCell rfl rfl rfl (by decide +kernel) ⟨Nat.le_of_ble_eq_true rfl, Nat.le_of_ble_eq_true rfl⟩) (xPV hK hT rfl hV) rfl rfl hl.1 rfl (lv_room (Nat.le_of_ble_eq_true rfl)) dX6_isLocked_3 ⟨Nat.le_of_ble_eq_true rfl, Nat.le_of_ble_eq_true rfl⟩) ?_
  refine xx_check (E0 := eI) (vx_runS (As := [.int (bI (okN nL p1 && okS p2))]) (rest := []) ⟨hx, hb, hml, hown, hts⟩ (c_X6_checkThere l hst D cA A (okN nL p1 && okS p2) (bI (okN nL p1 && okS p2)) rfl) (va_cwS 1 hts gX6_isLocked_X6_checkThere rfl rfl rfl (by decide +kernel) ⟨Nat.le_of_ble_eq_true rfl, Nat.le_of_ble_eq_true rfl⟩) (xPXS hK tK.blind (fun U hU hW => hX.2.at hS (fun _ h => h) hU hW) trivial) rfl rfl hl.1 rfl (lv_room (Nat.le_of_ble_eq_true rfl)) dX6_isLocked_6 ⟨Nat.le_of_ble_eq_true rfl, Nat.le_of_ble_eq_true rfl⟩) hS (fun b_1 ce q9 H1 z1 k1 hS1 g1 g2 g3 => ?_) (fun b_1 => ?_)
  · have hk9 : kIL nL p1 p2 p3 = 1 := by simp [kIL, b_1]
    exact vx_out (fun x hx => (ht x hx).elim) hlocks g1 g2 g3 (fun t ht9 _ => ⟨by rw [hk9]; decide, by rw [hk9] <;> rfl, by rw [ht9]; exact hCS0.same (fun q h1 _ => k1 q h1), hS1.F ht9⟩) hS1.2.2 (Nat.le_of_ble_eq_true rfl) (Nat.le_of_ble_eq_true rfl)
  · have _b_1 := b_1
    obtain ⟨ip1, hip1, ep1⟩ := okN_of (n := nL) (v := p1) (by omega) (by have h9 := b_1; (try simp only [Bool.and_eq_true] at h9); simp [h9])
    subst ep1
    obtain ⟨ip2, hip2, ep2⟩ := okS_of (v := p2) (by have h9 := b_1; (try simp only [Bool.and_eq_true] at h9); simp [h9])
    subst ep2
    refine lv_iload_n hx hb dX6_isLocked_9 rfl (lv_at hl 3 rfl) ?_
    refine xr_call (va_runS (As := [.int p3]) (rest := []) ⟨hx, hb, hml, hown, hts⟩ (c_X6_isOwner l D cA p3) (va_cwS 1 hts gX6_isLocked_X6_isOwner rfl rfl rfl (by decide +kernel) ⟨Nat.le_of_ble_eq_true rfl, Nat.le_of_ble_eq_true rfl⟩) (xPS hK trivial) rfl rfl hl.1 rfl (lv_room (Nat.le_of_ble_eq_true rfl)) dX6_isLocked_10 ⟨Nat.le_of_ble_eq_true rfl, Nat.le_of_ble_eq_true rfl⟩) ?_
    refine xx_check (E0 := eA) (vx_runS (As := [.int (bI (okO p3))]) (rest := []) ⟨hx, hb, hml, hown, hts⟩ (c_X6_checkArgument l hst D cA A (okO p3) (bI (okO p3)) rfl) (va_cwS 1 hts gX6_isLocked_X6_checkArgument rfl rfl rfl (by decide +kernel) ⟨Nat.le_of_ble_eq_true rfl, Nat.le_of_ble_eq_true rfl⟩) (xPXS hK tK.blind (fun U hU hW => hX.2.at hS (fun _ h => h) hU hW) trivial) rfl rfl hl.1 rfl (lv_room (Nat.le_of_ble_eq_true rfl)) dX6_isLocked_13 ⟨Nat.le_of_ble_eq_true rfl, Nat.le_of_ble_eq_true rfl⟩) hS (fun b_2 ce q9 H1 z1 k1 hS1 g1 g2 g3 => ?_) (fun b_2 => ?_)
    · have hk9 : kIL nL (nI ip1) (nI ip2) p3 = 2 := by simp [kIL, b_1, b_2]
      exact vx_out (fun x hx => (ht x hx).elim) hlocks g1 g2 g3 (fun t ht9 _ => ⟨by rw [hk9]; decide, by rw [hk9] <;> rfl, by rw [ht9]; exact hCS0.same (fun q h1 _ => k1 q h1), hS1.F ht9⟩) hS1.2.2 (Nat.le_of_ble_eq_true rfl) (Nat.le_of_ble_eq_true rfl)
    · have _b_2 := b_2
      refine lv_aload_n hx hb dX6_isLocked_16 rfl (lv_at hl 0 rfl) ?_
      refine x_get (v := .ref (nm 1 1)) hx hb hts h_X6 hown hK hT rfl 1 (by decide) (hts (.fieldLink RX6 16 "ConfigBeacon" "allLayers" "Ljava/util/ArrayList;") (by decide +kernel)) (fun _ h => h) rfl dX6_isLocked_17 ?_
      refine lv_iload_n hx hb dX6_isLocked_20 rfl (lv_at hl 1 rfl) ?_
      refine xr_call (va_runV (As := [.int (nI ip1)]) (rest := []) ⟨hx, hb, hml, hown, hts⟩ (c_Jx4a65c_get_915e3 l D cA (nm 1 1) mcL dL nL capL fL ip1 (by omega) hnL hcL (some (nm 3 ip1)) (hfL ip1 (by omega))) (cwV 1 hts gX6_isLocked_Jx4a65c_get_915e3 rfl rfl rfl (by decide +kernel) ⟨Nat.le_of_ble_eq_true rfl, Nat.le_of_ble_eq_true rfl⟩) (xPV hK hOL rfl ⟨hOL, hQL (by omega)⟩) rfl rfl hl.1 rfl (lv_room (Nat.le_of_ble_eq_true rfl)) dX6_isLocked_21 ⟨Nat.le_of_ble_eq_true rfl, Nat.le_of_ble_eq_true rfl⟩) ?_
      refine x_cast hx hb hown (hts (.classLink RX6 84 "ConfigBeacon$Layer") (by decide +kernel)) hK (hL ip1 (by omega)) rfl dX6_isLocked_24 ?_
      refine lv_iload_n hx hb dX6_isLocked_27 rfl (lv_at hl 2 rfl) ?_
      refine lv_iload_n hx hb dX6_isLocked_28 rfl (lv_at hl 3 rfl) ?_
      refine xr_call (va_runV (As := [.int (nI ip2), .int p3]) (rest := []) ⟨hx, hb, hml, hown, hts⟩ (c_X4_isHeldAgainst l D cA (nm 3 ip1) ip1 (f 4 ip1) (f 5 ip1) (f 3 ip1) (nm 4 ip1) (nm 5 ip1) (nm 6 ip1) (hoF f ip1) ip2 (by omega) p3) (cwV 2 hts gX6_isLocked_X4_isHeldAgainst rfl rfl rfl (by decide +kernel) ⟨Nat.le_of_ble_eq_true rfl, Nat.le_of_ble_eq_true rfl⟩) (xPV hK (hL ip1 (by omega)) rfl ⟨hL ip1 (by omega), hHo ip1 (by omega)⟩) rfl rfl hl.1 rfl (lv_room (Nat.le_of_ble_eq_true rfl)) dX6_isLocked_29 ⟨Nat.le_of_ble_eq_true rfl, Nat.le_of_ble_eq_true rfl⟩) ?_
      refine vx_ret ?_
      exact xw_zret hx hb hr hlocks rfl hS ⟨(by simp [kIL, b_1, b_2]), (by rw [cl_nI (by omega) (by omega), lck_he iLk (by omega)]), hCS0⟩ (Nat.le_of_ble_eq_true rfl) (Nat.le_of_ble_eq_true rfl) dX6_isLocked_32
set_option maxHeartbeats 4000000 in
set_option maxRecDepth 100000 in
theorem c_X6_applies (l : Launch) (hst : l.stackTraces = false) (D : va_G) (cA : Nat → ClassId) (lab : Nat → Nat) (nm : Nat → Nat → Nat) (rf : Nat → Nat → Option Nat) (f : Nat → Nat → Int32) (nC nL nV : Nat) (hi : CRi f nC nL nV) (A : Nat → Prop) (hl9 : CRl A lab nm rf nC nL) (H9 : Heap) (p1 : Int32) (p2 : Int32) : vx_Met l yX6_applies wsX6_applies (rmK 41 3 18) (xPX D cA (fun U => pK A (nm 12 0) U) [.ref (nm 0 0), .int p1, .int p2] (fun H => H = H9 ∧ CRv D cA lab nm rf f nC nL nV H ∧ IQ0 D cA nm H)) (xW (pJ (kAp nL nC p1 p2) (some (.int (bI (forF f (ix p1) (ix p2))))) (CS D cA A (nm 12 0) (nm 0 0) f nC nL nV)) A) (xT (kAp nL nC p1 p2) (fun k => eI) (CS D cA A (nm 12 0) (nm 0 0) f nC nL nV) A) 3 18 A := by
  refine vx_ofW (cc := cX6_applies) (maxL := 3) (ret := (some .boolean)) (by decide) rfl ?_
  intro p e s m args below meth c s₁ B hml ht hv
  obtain ⟨rfl, ⟨hK, hX⟩, hI⟩ := hv
  have hx := B.exec
  have hb := B.bytes
  have hr := B.returns
  have hts := atoms_spec (ws := wsX6_applies) B.pre
  have hown : s.vm.findClass RX6 = some m.cls := findClass_of_methodNamed B.named
  have hlocks := B.notSynchronized
  have hl := lv_entry ([.ref (nm 0 0), .int p1, .int p2]) (n := 3) (Nat.le_of_ble_eq_true rfl)
  rw [lg_entry_eq]
  generalize (lg_sl ([.ref (nm 0 0), .int p1, .int p2]) ++ List.replicate (3 - (lg_sl ([.ref (nm 0 0), .int p1, .int p2])).length) Slot.unset).toArray = ls at hl ⊢
  have hl : lv_has ls 3 [(0, .ref (nm 0 0)), (1, .int p1), (2, .int p2)] := hl
  have h_X0 : ∀ w ∈ wsX00, w ∈ wsX6_applies := fun _ h => List.mem_cons_of_mem _ (List.mem_append_left _ (List.mem_append_right _ h))
  have h_X4 : ∀ w ∈ wsX40, w ∈ wsX6_applies := fun _ h => List.mem_cons_of_mem _ (List.mem_append_left _ (List.mem_append_left _ (List.mem_append_right _ h)))
  have h_X6 : ∀ w ∈ wsX60, w ∈ wsX6_applies := fun _ h => List.mem_cons_of_mem _ (List.mem_append_left _ (List.mem_append_left _ (List.mem_append_left _ (List.mem_append_left _ (List.mem_append_right _ h)))))
  have h_Jx4a65c : ∀ w ∈ wsJx4a65c0, w ∈ wsX6_applies := fun _ h => List.mem_cons_of_mem _ (List.mem_append_left _ (List.mem_append_left _ (List.mem_append_left _ (List.mem_append_right _ h))))
  obtain ⟨hH9, hI, hIQ⟩ := hI
  subst hH9
  have hV := hI
  have hi0 := hi
  obtain ⟨hT, ⟨mcC, dC, capC, fC, hOC, hQC, hnC, hcC, hfC, -⟩, ⟨mcL, dL, capL, fL, hOL, hQL, hnL, hcL, hfL, -⟩, ⟨mcV, dV, capV, fV, hOV, hQV, hnV, hcV, hfV, -⟩, hC, hL, hHo, hRo, hCh, hRl, hEn⟩ := hI
  obtain ⟨b1, b2, b3, iSel, iGd, iCur, iZero, iLk, iLkA, iLkB⟩ := hi
  have hS : va_S A s.heap s.heap [] := va_S.rf
  have hCS0 : CS D cA A (nm 12 0) (nm 0 0) f nC nL nV s.heap := ⟨lab, nm, rf, hV, hl9, hIQ, rfl, rfl⟩
  refine lv_aload_n hx hb dX6_applies_0 rfl (lv_at hl 0 rfl) ?_
  refine lv_iload_n hx hb dX6_applies_1 rfl (lv_at hl 1 rfl) ?_
  refine xr_call (va_runV (As := [.int p1]) (rest := []) ⟨hx, hb, hml, hown, hts⟩ (c_X6_isLayer l D cA lab nm rf f nC nL nV (⟨b1, b2, b3, iSel, iGd, iCur, iZero, iLk, iLkA, iLkB⟩) p1) (cwV 1 hts gX6_applies_X6_isLayer rfl rfl rfl (by decide +kernel) ⟨Nat.le_of_ble_eq_true rfl, Nat.le_of_ble_eq_true rfl⟩) (xPV hK hT rfl hV) rfl rfl hl.1 rfl (lv_room (Nat.le_of_ble_eq_true rfl)) dX6_applies_2 ⟨Nat.le_of_ble_eq_true rfl, Nat.le_of_ble_eq_true rfl⟩) ?_
  refine xb_eq (tgt := 20) hx hb dX6_applies_5 (by decide) (fun c_1 => ?_) (fun c_1 => ?_)
  · refine lv_iconst (v := 0) hx hb dX6_applies_20 (by decide) ?_
    refine xx_check (E0 := eI) (vx_runS (As := [.int 0]) (rest := []) ⟨hx, hb, hml, hown, hts⟩ (c_X6_checkThere l hst D cA A false 0 (by decide)) (va_cwS 1 hts gX6_applies_X6_checkThere rfl rfl rfl (by decide +kernel) ⟨Nat.le_of_ble_eq_true rfl, Nat.le_of_ble_eq_true rfl⟩) (xPXS hK tK.blind (fun U hU hW => hX.2.at hS (fun _ h => h) hU hW) trivial) rfl rfl hl.1 rfl (lv_room (Nat.le_of_ble_eq_true rfl)) dX6_applies_21 ⟨Nat.le_of_ble_eq_true rfl, Nat.le_of_ble_eq_true rfl⟩) hS (fun b_2 ce q9 H1 z1 k1 hS1 g1 g2 g3 => ?_) (fun b_2 => ?_)
    · have hk9 : kAp nL nC p1 p2 = 1 := by simp [kAp, c_1]
      exact vx_out (fun x hx => (ht x hx).elim) hlocks g1 g2 g3 (fun t ht9 _ => ⟨by rw [hk9]; decide, by rw [hk9] <;> rfl, by rw [ht9]; exact hCS0.same (fun q h1 _ => k1 q h1), hS1.F ht9⟩) hS1.2.2 (Nat.le_of_ble_eq_true rfl) (Nat.le_of_ble_eq_true rfl)
    · exact absurd b_2 (by decide)
  · refine lv_aload_n hx hb dX6_applies_8 rfl (lv_at hl 0 rfl) ?_
    refine lv_iload_n hx hb dX6_applies_9 rfl (lv_at hl 2 rfl) ?_
    refine xr_call (va_runV (As := [.int p2]) (rest := []) ⟨hx, hb, hml, hown, hts⟩ (c_X6_isClient l D cA lab nm rf f nC nL nV (⟨b1, b2, b3, iSel, iGd, iCur, iZero, iLk, iLkA, iLkB⟩) p2) (cwV 1 hts gX6_applies_X6_isClient rfl rfl rfl (by decide +kernel) ⟨Nat.le_of_ble_eq_true rfl, Nat.le_of_ble_eq_true rfl⟩) (xPV hK hT rfl hV) rfl rfl hl.1 rfl (lv_room (Nat.le_of_ble_eq_true rfl)) dX6_applies_10 ⟨Nat.le_of_ble_eq_true rfl, Nat.le_of_ble_eq_true rfl⟩) ?_
    refine xb_eq (tgt := 20) hx hb dX6_applies_13 (by decide) (fun c_3 => ?_) (fun c_3 => ?_)
    · refine lv_iconst (v := 0) hx hb dX6_applies_20 (by decide) ?_
      refine xx_check (E0 := eI) (vx_runS (As := [.int 0]) (rest := []) ⟨hx, hb, hml, hown, hts⟩ (c_X6_checkThere l hst D cA A false 0 (by decide)) (va_cwS 1 hts gX6_applies_X6_checkThere rfl rfl rfl (by decide +kernel) ⟨Nat.le_of_ble_eq_true rfl, Nat.le_of_ble_eq_true rfl⟩) (xPXS hK tK.blind (fun U hU hW => hX.2.at hS (fun _ h => h) hU hW) trivial) rfl rfl hl.1 rfl (lv_room (Nat.le_of_ble_eq_true rfl)) dX6_applies_21 ⟨Nat.le_of_ble_eq_true rfl, Nat.le_of_ble_eq_true rfl⟩) hS (fun b_4 ce q9 H1 z1 k1 hS1 g1 g2 g3 => ?_) (fun b_4 => ?_)
      · have hk9 : kAp nL nC p1 p2 = 1 := by simp [kAp, c_1, c_3]
        exact vx_out (fun x hx => (ht x hx).elim) hlocks g1 g2 g3 (fun t ht9 _ => ⟨by rw [hk9]; decide, by rw [hk9] <;> rfl, by rw [ht9]; exact hCS0.same (fun q h1 _ => k1 q h1), hS1.F ht9⟩) hS1.2.2 (Nat.le_of_ble_eq_true rfl) (Nat.le_of_ble_eq_true rfl)
      · exact absurd b_4 (by decide)
    · refine lv_iconst (v := 1) hx hb dX6_applies_16 (by decide) ?_
      refine lv_goto (tgt := 21) hx hb dX6_applies_17 (by decide) ?_
      refine xx_check (E0 := eI) (vx_runS (As := [.int 1]) (rest := []) ⟨hx, hb, hml, hown, hts⟩ (c_X6_checkThere l hst D cA A true 1 (by decide)) (va_cwS 1 hts gX6_applies_X6_checkThere rfl rfl rfl (by decide +kernel) ⟨Nat.le_of_ble_eq_true rfl, Nat.le_of_ble_eq_true rfl⟩) (xPXS hK tK.blind (fun U hU hW => hX.2.at hS (fun _ h => h) hU hW) trivial) rfl rfl hl.1 rfl (lv_room (Nat.le_of_ble_eq_true rfl)) dX6_applies_21 ⟨Nat.le_of_ble_eq_true rfl, Nat.le_of_ble_eq_true rfl⟩) hS (fun b_5 ce q9 H1 z1 k1 hS1 g1 g2 g3 => ?_) (fun b_5 => ?_)
      · exact absurd b_5 (by decide)
      · have _b_5 := b_5
        obtain ⟨ip1, hip1, ep1⟩ := okN_of (n := nL) (v := p1) (by omega) (by have h9 := c_1; (try simp only [Bool.and_eq_true] at h9); simp [h9])
        subst ep1
        obtain ⟨ip2, hip2, ep2⟩ := okN_of (n := nC) (v := p2) (by omega) (by have h9 := c_3; (try simp only [Bool.and_eq_true] at h9); simp [h9])
        subst ep2
        refine lv_aload_n hx hb dX6_applies_24 rfl (lv_at hl 0 rfl) ?_
        refine lv_iload_n hx hb dX6_applies_25 rfl (lv_at hl 1 rfl) ?_
        refine lv_iload_n hx hb dX6_applies_26 rfl (lv_at hl 2 rfl) ?_
        refine xr_call (va_runV (As := [.int (nI ip1), .int (nI ip2)]) (rest := []) ⟨hx, hb, hml, hown, hts⟩ (c_X6_reaches l D cA lab nm rf f nC nL nV (⟨b1, b2, b3, iSel, iGd, iCur, iZero, iLk, iLkA, iLkB⟩) ip1 ip2 (by omega) (by omega)) (cwV 2 hts gX6_applies_X6_reaches rfl rfl rfl (by decide +kernel) ⟨Nat.le_of_ble_eq_true rfl, Nat.le_of_ble_eq_true rfl⟩) (xPV hK hT rfl hV) rfl rfl hl.1 rfl (lv_room (Nat.le_of_ble_eq_true rfl)) dX6_applies_27 ⟨Nat.le_of_ble_eq_true rfl, Nat.le_of_ble_eq_true rfl⟩) ?_
        refine vx_ret ?_
        exact xw_zret hx hb hr hlocks rfl hS ⟨(by simp [kAp, c_1, c_3]), (by rw [ix_nI (by omega), ix_nI (by omega)]), hCS0⟩ (Nat.le_of_ble_eq_true rfl) (Nat.le_of_ble_eq_true rfl) dX6_applies_30
