set_option maxHeartbeats 4000000 in
set_option maxRecDepth 100000 in
theorem c_X6_countShown (l : Launch) (D : va_G) (cA : Nat → ClassId) (lab : Nat → Nat) (nm : Nat → Nat → Nat) (rf : Nat → Nat → Option Nat) (f : Nat → Nat → Int32) (nC nL nV : Nat) (hi : CRi f nC nL nV) (a9 b9 : Nat) (v : Int32) (ha9 : a9 < nL) (hb9 : b9 < 16) : Met l yX6_countShown wsX6_countShown (rmK 4 0 0) (xP D cA [.ref (nm 0 0), .int (nI a9), .int (nI b9), .int v] (CRv D cA lab nm rf f nC nL nV)) (xR (some (.int (nI (cntF (fun c => forF f a9 c && decide (nI (bk c a9 b9) < v)) nC))))) 0 0 (fun _ => False) := by
  refine Met.ofW (cc := cX6_countShown) (maxL := 6) (ret := (some .int)) (by decide) rfl ?_
  intro p e s m args below meth c s₁ B hml hv
  obtain ⟨rfl, hK, hI⟩ := hv
  have hx := B.exec
  have hb := B.bytes
  have hr := B.returns
  have hts := atoms_spec (ws := wsX6_countShown) B.pre
  have hown : s.vm.findClass RX6 = some m.cls := findClass_of_methodNamed B.named
  have hlocks := B.notSynchronized
  have hl := lv_entry ([.ref (nm 0 0), .int (nI a9), .int (nI b9), .int v]) (n := 6) (Nat.le_of_ble_eq_true rfl)
  rw [lg_entry_eq]
  generalize (lg_sl ([.ref (nm 0 0), .int (nI a9), .int (nI b9), .int v]) ++ List.replicate (6 - (lg_sl ([.ref (nm 0 0), .int (nI a9), .int (nI b9), .int v])).length) Slot.unset).toArray = ls at hl ⊢
  have hl : lv_has ls 6 [(0, .ref (nm 0 0)), (1, .int (nI a9)), (2, .int (nI b9)), (3, .int v)] := hl
  have h_X0 : ∀ w ∈ wsX00, w ∈ wsX6_countShown := fun _ h => List.mem_cons_of_mem _ (List.mem_append_right _ h)
  have h_X4 : ∀ w ∈ wsX40, w ∈ wsX6_countShown := fun _ h => List.mem_cons_of_mem _ (List.mem_append_left _ (List.mem_append_right _ h))
  have h_X6 : ∀ w ∈ wsX60, w ∈ wsX6_countShown := fun _ h => List.mem_cons_of_mem _ (List.mem_append_left _ (List.mem_append_left _ (List.mem_append_left _ (List.mem_append_right _ h))))
  have h_Jx4a65c : ∀ w ∈ wsJx4a65c0, w ∈ wsX6_countShown := fun _ h => List.mem_cons_of_mem _ (List.mem_append_left _ (List.mem_append_left _ (List.mem_append_right _ h)))
  have hV := hI
  obtain ⟨hT, ⟨mcC, dC, capC, fC, hOC, hQC, hnC, hcC, hfC, -⟩, ⟨mcL, dL, capL, fL, hOL, hQL, hnL, hcL, hfL, -⟩, ⟨mcV, dV, capV, fV, hOV, hQV, hnV, hcV, hfV, -⟩, hC, hL, hHo, hRo, hCh, hRl, hEn⟩ := hI
  obtain ⟨b1, b2, b3, iSel, iGd, iCur, iZero, iLk, iLkA, iLkB⟩ := hi
  refine lv_iconst (v := 0) hx hb dX6_countShown_0 (by decide) ?_
  refine lv_istore (lv' := [(4, .int 0), (0, .ref (nm 0 0)), (1, .int (nI a9)), (2, .int (nI b9)), (3, .int v)]) hx hb dX6_countShown_1 hl (by decide) rfl (fun ls hl => ?_)
  refine lv_iconst (v := 0) hx hb dX6_countShown_3 (by decide) ?_
  refine lv_istore (lv' := [(5, .int 0), (4, .int 0), (0, .ref (nm 0 0)), (1, .int (nI a9)), (2, .int (nI b9)), (3, .int v)]) hx hb dX6_countShown_4 hl (by decide) rfl (fun ls hl => ?_)
  refine w_loopR (fun (i : Nat) ls => i ≤ nC ∧ lv_has ls 6 [(0, .ref (nm 0 0)), (1, .int (nI a9)), (2, .int (nI b9)), (3, .int v), (4, .int (nI (cntF (fun c => forF f a9 c && decide (nI (bk c a9 b9) < v)) i))), (5, .int (nI i))]) (fun (i : Nat) => nC - i) ?_ 0 ⟨Nat.zero_le _, lv_sub hl [2, 3, 4, 5, 1, 0] rfl⟩
  intro i ls h9 ih
  obtain ⟨hi8, hl⟩ := h9
  refine lv_iload hx hb dX6_countShown_6 (lv_at hl 5 rfl) ?_
  refine lv_aload_n hx hb dX6_countShown_8 rfl (lv_at hl 0 rfl) ?_
  refine x_get (v := .ref (nm 1 0)) hx hb hts h_X6 hown hK hT rfl 0 (by decide) (hts (.fieldLink RX6 10 "ConfigBeacon" "allClients" "Ljava/util/ArrayList;") (by decide +kernel)) (fun _ h => h) rfl dX6_countShown_9 ?_
  refine xr_call (va_runV (As := []) (rest := [.int (nI i)]) ⟨hx, hb, hml, hown, hts⟩ (c_Jx4a65c_size_8abf5 l D cA (nm 1 0) mcC dC nC) (cwV 0 hts gX6_countShown_Jx4a65c_size_8abf5 rfl rfl rfl (by decide +kernel) ⟨Nat.le_of_ble_eq_true rfl, Nat.le_of_ble_eq_true rfl⟩) (xPV hK hOC rfl hOC) rfl rfl hl.1 rfl (lv_room (Nat.le_of_ble_eq_true rfl)) dX6_countShown_12 ⟨Nat.le_of_ble_eq_true rfl, Nat.le_of_ble_eq_true rfl⟩) ?_
  refine lv_icmp_ge (tgt := 58) hx hb dX6_countShown_15 (by decide) (fun c_1 => ?_) (fun c_1 => ?_)
  · have n_1 : nC ≤ i := (nI_leI (a := nC) (b := i) (by omega) (by omega)).mp c_1
    refine lv_iload hx hb dX6_countShown_58 (lv_at hl 4 rfl) ?_
    exact xr_iret hx hb hr hlocks (by rw [show nC = i by omega]) dX6_countShown_60
  · have n_1 : i < nC := Nat.not_le.mp (fun q => c_1 ((nI_leI (a := nC) (b := i) (by omega) (by omega)).mpr q))
    refine lv_aload_n hx hb dX6_countShown_18 rfl (lv_at hl 0 rfl) ?_
    refine lv_iload_n hx hb dX6_countShown_19 rfl (lv_at hl 1 rfl) ?_
    refine lv_iload hx hb dX6_countShown_20 (lv_at hl 5 rfl) ?_
    refine xr_call (va_runV (As := [.int (nI a9), .int (nI i)]) (rest := []) ⟨hx, hb, hml, hown, hts⟩ (c_X6_reaches l D cA lab nm rf f nC nL nV (⟨b1, b2, b3, iSel, iGd, iCur, iZero, iLk, iLkA, iLkB⟩) a9 i (by omega) (by omega)) (cwV 2 hts gX6_countShown_X6_reaches rfl rfl rfl (by decide +kernel) ⟨Nat.le_of_ble_eq_true rfl, Nat.le_of_ble_eq_true rfl⟩) (xPV hK hT rfl hV) rfl rfl hl.1 rfl (lv_room (Nat.le_of_ble_eq_true rfl)) dX6_countShown_22 ⟨Nat.le_of_ble_eq_true rfl, Nat.le_of_ble_eq_true rfl⟩) ?_
    refine xb_eq (tgt := 52) hx hb dX6_countShown_25 (by decide) (fun c_2 => ?_) (fun c_2 => ?_)
    · have ec9 : ((nI (cntF (fun c => forF f a9 c && decide (nI (bk c a9 b9) < v)) i)) : Int32) = (nI (cntF (fun c => forF f a9 c && decide (nI (bk c a9 b9) < v)) (i + 1))) := by rw [cntF_f (by simp [c_1, Int32.not_le.mp c_1, c_2])]
      rw [ec9] at hl
      refine lv_iinc (v := (nI (i + 1))) (lv' := [(5, .int (nI (i + 1))), (0, .ref (nm 0 0)), (1, .int (nI a9)), (2, .int (nI b9)), (3, .int v), (4, .int (nI (cntF (fun c => forF f a9 c && decide (nI (bk c a9 b9) < v)) (i + 1))))]) hx hb dX6_countShown_52 hl (k := 5) rfl (ni_inc i) (by decide) rfl (fun ls hl => ?_)
      refine lv_goto (tgt := 6) hx hb dX6_countShown_55 (by decide) ?_
      exact ih (i + 1) _ ⟨(by omega), lv_sub hl [1, 2, 3, 4, 5, 0] rfl⟩ (by omega)
    · refine lv_aload_n hx hb dX6_countShown_28 rfl (lv_at hl 0 rfl) ?_
      refine x_get (v := .ref (nm 1 1)) hx hb hts h_X6 hown hK hT rfl 1 (by decide) (hts (.fieldLink RX6 16 "ConfigBeacon" "allLayers" "Ljava/util/ArrayList;") (by decide +kernel)) (fun _ h => h) rfl dX6_countShown_29 ?_
      refine lv_iload_n hx hb dX6_countShown_32 rfl (lv_at hl 1 rfl) ?_
      refine xr_call (va_runV (As := [.int (nI a9)]) (rest := []) ⟨hx, hb, hml, hown, hts⟩ (c_Jx4a65c_get_915e3 l D cA (nm 1 1) mcL dL nL capL fL a9 (by omega) hnL hcL (some (nm 3 a9)) (hfL a9 (by omega))) (cwV 1 hts gX6_countShown_Jx4a65c_get_915e3 rfl rfl rfl (by decide +kernel) ⟨Nat.le_of_ble_eq_true rfl, Nat.le_of_ble_eq_true rfl⟩) (xPV hK hOL rfl ⟨hOL, hQL (by omega)⟩) rfl rfl hl.1 rfl (lv_room (Nat.le_of_ble_eq_true rfl)) dX6_countShown_33 ⟨Nat.le_of_ble_eq_true rfl, Nat.le_of_ble_eq_true rfl⟩) ?_
      refine x_cast hx hb hown (hts (.classLink RX6 84 "ConfigBeacon$Layer") (by decide +kernel)) hK (hL a9 (by omega)) rfl dX6_countShown_36 ?_
      refine lv_iload hx hb dX6_countShown_39 (lv_at hl 5 rfl) ?_
      refine lv_iload_n hx hb dX6_countShown_41 rfl (lv_at hl 2 rfl) ?_
      refine xr_call (va_runV (As := [.int (nI i), .int (nI b9)]) (rest := []) ⟨hx, hb, hml, hown, hts⟩ (c_X4_bucket l D cA (nm 3 a9) a9 (f 4 a9) (f 5 a9) (f 3 a9) (nm 4 a9) (nm 5 a9) (nm 6 a9) i b9 (by omega) (by omega) (by omega)) (cwV 2 hts gX6_countShown_X4_bucket rfl rfl rfl (by decide +kernel) ⟨Nat.le_of_ble_eq_true rfl, Nat.le_of_ble_eq_true rfl⟩) (xPV hK (hL a9 (by omega)) rfl (hL a9 (by omega))) rfl rfl hl.1 rfl (lv_room (Nat.le_of_ble_eq_true rfl)) dX6_countShown_42 ⟨Nat.le_of_ble_eq_true rfl, Nat.le_of_ble_eq_true rfl⟩) ?_
      refine lv_iload_n hx hb dX6_countShown_45 rfl (lv_at hl 3 rfl) ?_
      refine lv_icmp_ge (tgt := 52) hx hb dX6_countShown_46 (by decide) (fun c_3 => ?_) (fun c_3 => ?_)
      · have ec9 : ((nI (cntF (fun c => forF f a9 c && decide (nI (bk c a9 b9) < v)) i)) : Int32) = (nI (cntF (fun c => forF f a9 c && decide (nI (bk c a9 b9) < v)) (i + 1))) := by rw [cntF_f (by simp [c_1, Int32.not_le.mp c_1, c_2, c_3, Int32.not_lt.mpr c_3])]
        rw [ec9] at hl
        refine lv_iinc (v := (nI (i + 1))) (lv' := [(5, .int (nI (i + 1))), (0, .ref (nm 0 0)), (1, .int (nI a9)), (2, .int (nI b9)), (3, .int v), (4, .int (nI (cntF (fun c => forF f a9 c && decide (nI (bk c a9 b9) < v)) (i + 1))))]) hx hb dX6_countShown_52 hl (k := 5) rfl (ni_inc i) (by decide) rfl (fun ls hl => ?_)
        refine lv_goto (tgt := 6) hx hb dX6_countShown_55 (by decide) ?_
        exact ih (i + 1) _ ⟨(by omega), lv_sub hl [1, 2, 3, 4, 5, 0] rfl⟩ (by omega)
      · refine lv_iinc (v := (nI ((cntF (fun c => forF f a9 c && decide (nI (bk c a9 b9) < v)) i) + 1))) (lv' := [(4, .int (nI ((cntF (fun c => forF f a9 c && decide (nI (bk c a9 b9) < v)) i) + 1))), (0, .ref (nm 0 0)), (1, .int (nI a9)), (2, .int (nI b9)), (3, .int v), (5, .int (nI i))]) hx hb dX6_countShown_49 hl (k := 4) rfl (ni_inc (cntF (fun c => forF f a9 c && decide (nI (bk c a9 b9) < v)) i)) (by decide) rfl (fun ls hl => ?_)
        have ec9 : ((nI ((cntF (fun c => forF f a9 c && decide (nI (bk c a9 b9) < v)) i) + 1)) : Int32) = (nI (cntF (fun c => forF f a9 c && decide (nI (bk c a9 b9) < v)) (i + 1))) := by rw [cntF_t (by simp [c_1, Int32.not_le.mp c_1, c_2, c_3, Int32.not_le.mp c_3])]
        rw [ec9] at hl
        refine lv_iinc (v := (nI (i + 1))) (lv' := [(5, .int (nI (i + 1))), (4, .int (nI (cntF (fun c => forF f a9 c && decide (nI (bk c a9 b9) < v)) (i + 1)))), (0, .ref (nm 0 0)), (1, .int (nI a9)), (2, .int (nI b9)), (3, .int v)]) hx hb dX6_countShown_52 hl (k := 5) rfl (ni_inc i) (by decide) rfl (fun ls hl => ?_)
        refine lv_goto (tgt := 6) hx hb dX6_countShown_55 (by decide) ?_
        exact ih (i + 1) _ ⟨(by omega), lv_sub hl [2, 3, 4, 5, 1, 0] rfl⟩ (by omega)
set_option maxHeartbeats 4000000 in
set_option maxRecDepth 100000 in
theorem c_X6_countLocks (l : Launch) (D : va_G) (cA : Nat → ClassId) (lab : Nat → Nat) (nm : Nat → Nat → Nat) (rf : Nat → Nat → Option Nat) (f : Nat → Nat → Int32) (nC nL nV : Nat) (hi : CRi f nC nL nV) (o : Int32) : Met l yX6_countLocks wsX6_countLocks (rmK 3 0 0) (xP D cA [.ref (nm 0 0), .int o] (CRv D cA lab nm rf f nC nL nV)) (xR (some (.int (nI (smF (fun j => cntF (fun k => decide (hoF f j k = o)) 17) nL))))) 0 0 (fun _ => False) := by
  refine Met.ofW (cc := cX6_countLocks) (maxL := 4) (ret := (some .int)) (by decide) rfl ?_
  intro p e s m args below meth c s₁ B hml hv
  obtain ⟨rfl, hK, hI⟩ := hv
  have hx := B.exec
  have hb := B.bytes
  have hr := B.returns
  have hts := atoms_spec (ws := wsX6_countLocks) B.pre
  have hown : s.vm.findClass RX6 = some m.cls := findClass_of_methodNamed B.named
  have hlocks := B.notSynchronized
  have hl := lv_entry ([.ref (nm 0 0), .int o]) (n := 4) (Nat.le_of_ble_eq_true rfl)
  rw [lg_entry_eq]
  generalize (lg_sl ([.ref (nm 0 0), .int o]) ++ List.replicate (4 - (lg_sl ([.ref (nm 0 0), .int o])).length) Slot.unset).toArray = ls at hl ⊢
  have hl : lv_has ls 4 [(0, .ref (nm 0 0)), (1, .int o)] := hl
  have h_X4 : ∀ w ∈ wsX40, w ∈ wsX6_countLocks := fun _ h => List.mem_cons_of_mem _ (List.mem_append_right _ h)
  have h_X6 : ∀ w ∈ wsX60, w ∈ wsX6_countLocks := fun _ h => List.mem_cons_of_mem _ (List.mem_append_left _ (List.mem_append_left _ (List.mem_append_right _ h)))
  have h_Jx4a65c : ∀ w ∈ wsJx4a65c0, w ∈ wsX6_countLocks := fun _ h => List.mem_cons_of_mem _ (List.mem_append_left _ (List.mem_append_right _ h))
  have hV := hI
  obtain ⟨hT, ⟨mcC, dC, capC, fC, hOC, hQC, hnC, hcC, hfC, -⟩, ⟨mcL, dL, capL, fL, hOL, hQL, hnL, hcL, hfL, -⟩, ⟨mcV, dV, capV, fV, hOV, hQV, hnV, hcV, hfV, -⟩, hC, hL, hHo, hRo, hCh, hRl, hEn⟩ := hI
  obtain ⟨b1, b2, b3, iSel, iGd, iCur, iZero, iLk, iLkA, iLkB⟩ := hi
  refine lv_iconst (v := 0) hx hb dX6_countLocks_0 (by decide) ?_
  refine lv_istore_n (lv' := [(2, .int 0), (0, .ref (nm 0 0)), (1, .int o)]) hx hb dX6_countLocks_1 rfl hl (by decide) rfl (fun ls hl => ?_)
  refine lv_iconst (v := 0) hx hb dX6_countLocks_2 (by decide) ?_
  refine lv_istore_n (lv' := [(3, .int 0), (2, .int 0), (0, .ref (nm 0 0)), (1, .int o)]) hx hb dX6_countLocks_3 rfl hl (by decide) rfl (fun ls hl => ?_)
  refine w_loopR (fun (i : Nat) ls => i ≤ nL ∧ lv_has ls 4 [(0, .ref (nm 0 0)), (1, .int o), (2, .int (nI (smF (fun j => cntF (fun k => decide (hoF f j k = o)) 17) i))), (3, .int (nI i))]) (fun (i : Nat) => nL - i) ?_ 0 ⟨Nat.zero_le _, lv_sub hl [2, 3, 1, 0] rfl⟩
  intro i ls h9 ih
  obtain ⟨hi8, hl⟩ := h9
  refine lv_iload_n hx hb dX6_countLocks_4 rfl (lv_at hl 3 rfl) ?_
  refine lv_aload_n hx hb dX6_countLocks_5 rfl (lv_at hl 0 rfl) ?_
  refine x_get (v := .ref (nm 1 1)) hx hb hts h_X6 hown hK hT rfl 1 (by decide) (hts (.fieldLink RX6 16 "ConfigBeacon" "allLayers" "Ljava/util/ArrayList;") (by decide +kernel)) (fun _ h => h) rfl dX6_countLocks_6 ?_
  refine xr_call (va_runV (As := []) (rest := [.int (nI i)]) ⟨hx, hb, hml, hown, hts⟩ (c_Jx4a65c_size_8abf5 l D cA (nm 1 1) mcL dL nL) (cwV 0 hts gX6_countLocks_Jx4a65c_size_8abf5 rfl rfl rfl (by decide +kernel) ⟨Nat.le_of_ble_eq_true rfl, Nat.le_of_ble_eq_true rfl⟩) (xPV hK hOL rfl hOL) rfl rfl hl.1 rfl (lv_room (Nat.le_of_ble_eq_true rfl)) dX6_countLocks_9 ⟨Nat.le_of_ble_eq_true rfl, Nat.le_of_ble_eq_true rfl⟩) ?_
  refine lv_icmp_ge (tgt := 39) hx hb dX6_countLocks_12 (by decide) (fun c_1 => ?_) (fun c_1 => ?_)
  · have n_1 : nL ≤ i := (nI_leI (a := nL) (b := i) (by omega) (by omega)).mp c_1
    refine lv_iload_n hx hb dX6_countLocks_39 rfl (lv_at hl 2 rfl) ?_
    exact xr_iret hx hb hr hlocks (by rw [show nL = i by omega]) dX6_countLocks_40
  · have n_1 : i < nL := Nat.not_le.mp (fun q => c_1 ((nI_leI (a := nL) (b := i) (by omega) (by omega)).mpr q))
    refine lv_iload_n hx hb dX6_countLocks_15 rfl (lv_at hl 2 rfl) ?_
    refine lv_aload_n hx hb dX6_countLocks_16 rfl (lv_at hl 0 rfl) ?_
    refine x_get (v := .ref (nm 1 1)) hx hb hts h_X6 hown hK hT rfl 1 (by decide) (hts (.fieldLink RX6 16 "ConfigBeacon" "allLayers" "Ljava/util/ArrayList;") (by decide +kernel)) (fun _ h => h) rfl dX6_countLocks_17 ?_
    refine lv_iload_n hx hb dX6_countLocks_20 rfl (lv_at hl 3 rfl) ?_
    refine xr_call (va_runV (As := [.int (nI i)]) (rest := [.int (nI (smF (fun j => cntF (fun k => decide (hoF f j k = o)) 17) i))]) ⟨hx, hb, hml, hown, hts⟩ (c_Jx4a65c_get_915e3 l D cA (nm 1 1) mcL dL nL capL fL i (by omega) hnL hcL (some (nm 3 i)) (hfL i (by omega))) (cwV 1 hts gX6_countLocks_Jx4a65c_get_915e3 rfl rfl rfl (by decide +kernel) ⟨Nat.le_of_ble_eq_true rfl, Nat.le_of_ble_eq_true rfl⟩) (xPV hK hOL rfl ⟨hOL, hQL (by omega)⟩) rfl rfl hl.1 rfl (lv_room (Nat.le_of_ble_eq_true rfl)) dX6_countLocks_21 ⟨Nat.le_of_ble_eq_true rfl, Nat.le_of_ble_eq_true rfl⟩) ?_
    refine x_cast hx hb hown (hts (.classLink RX6 84 "ConfigBeacon$Layer") (by decide +kernel)) hK (hL i (by omega)) rfl dX6_countLocks_24 ?_
    refine lv_iload_n hx hb dX6_countLocks_27 rfl (lv_at hl 1 rfl) ?_
    refine xr_call (va_runV (As := [.int o]) (rest := [.int (nI (smF (fun j => cntF (fun k => decide (hoF f j k = o)) 17) i))]) ⟨hx, hb, hml, hown, hts⟩ (c_X4_countHeld l D cA (nm 3 i) i (f 4 i) (f 5 i) (f 3 i) (nm 4 i) (nm 5 i) (nm 6 i) (hoF f i) o) (cwV 1 hts gX6_countLocks_X4_countHeld rfl rfl rfl (by decide +kernel) ⟨Nat.le_of_ble_eq_true rfl, Nat.le_of_ble_eq_true rfl⟩) (xPV hK (hL i (by omega)) rfl ⟨hL i (by omega), hHo i (by omega)⟩) rfl rfl hl.1 rfl (lv_room (Nat.le_of_ble_eq_true rfl)) dX6_countLocks_28 ⟨Nat.le_of_ble_eq_true rfl, Nat.le_of_ble_eq_true rfl⟩) ?_
    refine xe_iadd hx hb (nI_add (smF (fun j => cntF (fun k => decide (hoF f j k = o)) 17) i) ((fun j => cntF (fun k => decide (hoF f j k = o)) 17) i)) dX6_countLocks_31 ?_
    refine xe_top (show (nI ((smF (fun j => cntF (fun k => decide (hoF f j k = o)) 17) i) + ((fun j => cntF (fun k => decide (hoF f j k = o)) 17) i))) = nI (smF (fun j => cntF (fun k => decide (hoF f j k = o)) 17) (i + 1)) from rfl) ?_
    refine lv_istore_n (lv' := [(2, .int (nI (smF (fun j => cntF (fun k => decide (hoF f j k = o)) 17) (i + 1)))), (0, .ref (nm 0 0)), (1, .int o), (3, .int (nI i))]) hx hb dX6_countLocks_32 rfl hl (by decide) rfl (fun ls hl => ?_)
    refine lv_iinc (v := (nI (i + 1))) (lv' := [(3, .int (nI (i + 1))), (2, .int (nI (smF (fun j => cntF (fun k => decide (hoF f j k = o)) 17) (i + 1)))), (0, .ref (nm 0 0)), (1, .int o)]) hx hb dX6_countLocks_33 hl (k := 3) rfl (ni_inc i) (by decide) rfl (fun ls hl => ?_)
    refine lv_goto (tgt := 4) hx hb dX6_countLocks_36 (by decide) ?_
    exact ih (i + 1) _ ⟨(by omega), lv_sub hl [2, 3, 1, 0] rfl⟩ (by omega)
set_option maxHeartbeats 4000000 in
set_option maxRecDepth 100000 in
theorem c_X6_isFreeFor (l : Launch) (D : va_G) (cA : Nat → ClassId) (lab : Nat → Nat) (nm : Nat → Nat → Nat) (rf : Nat → Nat → Option Nat) (f : Nat → Nat → Int32) (nC nL nV : Nat) (hi : CRi f nC nL nV) (i9 j9 : Nat) (o : Int32) (hi8 : i9 < nL) (hj8 : j9 < 16) : Met l yX6_isFreeFor wsX6_isFreeFor (rmK 3 0 0) (xP D cA [.ref (nm 0 0), .int (nI i9), .int (nI j9), .int o] (CRv D cA lab nm rf f nC nL nV)) (xR (some (.int (bI (frF f i9 j9 o))))) 0 0 (fun _ => False) := by
  refine Met.ofW (cc := cX6_isFreeFor) (maxL := 5) (ret := (some .boolean)) (by decide) rfl ?_
  intro p e s m args below meth c s₁ B hml hv
  obtain ⟨rfl, hK, hI⟩ := hv
  have hx := B.exec
  have hb := B.bytes
  have hr := B.returns
  have hts := atoms_spec (ws := wsX6_isFreeFor) B.pre
  have hown : s.vm.findClass RX6 = some m.cls := findClass_of_methodNamed B.named
  have hlocks := B.notSynchronized
  have hl := lv_entry ([.ref (nm 0 0), .int (nI i9), .int (nI j9), .int o]) (n := 5) (Nat.le_of_ble_eq_true rfl)
  rw [lg_entry_eq]
  generalize (lg_sl ([.ref (nm 0 0), .int (nI i9), .int (nI j9), .int o]) ++ List.replicate (5 - (lg_sl ([.ref (nm 0 0), .int (nI i9), .int (nI j9), .int o])).length) Slot.unset).toArray = ls at hl ⊢
  have hl : lv_has ls 5 [(0, .ref (nm 0 0)), (1, .int (nI i9)), (2, .int (nI j9)), (3, .int o)] := hl
  have h_X4 : ∀ w ∈ wsX40, w ∈ wsX6_isFreeFor := fun _ h => List.mem_cons_of_mem _ (List.mem_append_left _ (List.mem_append_right _ h))
  have h_X6 : ∀ w ∈ wsX60, w ∈ wsX6_isFreeFor := fun _ h => List.mem_cons_of_mem _ (List.mem_append_left _ (List.mem_append_left _ (List.mem_append_right _ h)))
  have h_Jx4a65c : ∀ w ∈ wsJx4a65c0, w ∈ wsX6_isFreeFor := fun _ h => List.mem_cons_of_mem _ (List.mem_append_right _ h)
  have hV := hI
  obtain ⟨hT, ⟨mcC, dC, capC, fC, hOC, hQC, hnC, hcC, hfC, -⟩, ⟨mcL, dL, capL, fL, hOL, hQL, hnL, hcL, hfL, -⟩, ⟨mcV, dV, capV, fV, hOV, hQV, hnV, hcV, hfV, -⟩, hC, hL, hHo, hRo, hCh, hRl, hEn⟩ := hI
  obtain ⟨b1, b2, b3, iSel, iGd, iCur, iZero, iLk, iLkA, iLkB⟩ := hi
  refine lv_aload_n hx hb dX6_isFreeFor_0 rfl (lv_at hl 0 rfl) ?_
  refine x_get (v := .ref (nm 1 1)) hx hb hts h_X6 hown hK hT rfl 1 (by decide) (hts (.fieldLink RX6 16 "ConfigBeacon" "allLayers" "Ljava/util/ArrayList;") (by decide +kernel)) (fun _ h => h) rfl dX6_isFreeFor_1 ?_
  refine lv_iload_n hx hb dX6_isFreeFor_4 rfl (lv_at hl 1 rfl) ?_
  refine xr_call (va_runV (As := [.int (nI i9)]) (rest := []) ⟨hx, hb, hml, hown, hts⟩ (c_Jx4a65c_get_915e3 l D cA (nm 1 1) mcL dL nL capL fL i9 (by omega) hnL hcL (some (nm 3 i9)) (hfL i9 (by omega))) (cwV 1 hts gX6_isFreeFor_Jx4a65c_get_915e3 rfl rfl rfl (by decide +kernel) ⟨Nat.le_of_ble_eq_true rfl, Nat.le_of_ble_eq_true rfl⟩) (xPV hK hOL rfl ⟨hOL, hQL (by omega)⟩) rfl rfl hl.1 rfl (lv_room (Nat.le_of_ble_eq_true rfl)) dX6_isFreeFor_5 ⟨Nat.le_of_ble_eq_true rfl, Nat.le_of_ble_eq_true rfl⟩) ?_
  refine x_cast hx hb hown (hts (.classLink RX6 84 "ConfigBeacon$Layer") (by decide +kernel)) hK (hL i9 (by omega)) rfl dX6_isFreeFor_8 ?_
  refine lv_astore (lv' := [(4, .ref (nm 3 i9)), (0, .ref (nm 0 0)), (1, .int (nI i9)), (2, .int (nI j9)), (3, .int o)]) hx hb dX6_isFreeFor_11 hl (by decide) rfl (fun ls hl => ?_)
  refine lv_aload hx hb dX6_isFreeFor_13 (lv_at hl 0 rfl) ?_
  refine lv_iload_n hx hb dX6_isFreeFor_15 rfl (lv_at hl 3 rfl) ?_
  refine lv_iload_n hx hb dX6_isFreeFor_16 rfl (lv_at hl 4 rfl) ?_
  refine xr_call (va_runV (As := [.int (nI j9), .int o]) (rest := []) ⟨hx, hb, hml, hown, hts⟩ (c_X4_isHeldAgainst l D cA (nm 3 i9) i9 (f 4 i9) (f 5 i9) (f 3 i9) (nm 4 i9) (nm 5 i9) (nm 6 i9) (hoF f i9) j9 (by omega) o) (cwV 2 hts gX6_isFreeFor_X4_isHeldAgainst rfl rfl rfl (by decide +kernel) ⟨Nat.le_of_ble_eq_true rfl, Nat.le_of_ble_eq_true rfl⟩) (xPV hK (hL i9 (by omega)) rfl ⟨hL i9 (by omega), hHo i9 (by omega)⟩) rfl rfl hl.1 rfl (lv_room (Nat.le_of_ble_eq_true rfl)) dX6_isFreeFor_17 ⟨Nat.le_of_ble_eq_true rfl, Nat.le_of_ble_eq_true rfl⟩) ?_
  refine xb_ne (tgt := 37) hx hb dX6_isFreeFor_20 (by decide) (fun c_1 => ?_) (fun c_1 => ?_)
  · refine lv_iconst (v := 0) hx hb dX6_isFreeFor_37 (by decide) ?_
    exact xr_zret hx hb hr hlocks (b := frF f i9 j9 o) (by rw [frF, c_1]; rfl) dX6_isFreeFor_38
  · refine lv_aload hx hb dX6_isFreeFor_23 (lv_at hl 0 rfl) ?_
    refine x_getN (v := .ref (nm 5 i9)) hx hb hts h_X4 hown hK (hL i9 (by omega)) rfl 5 (by decide) (va_Nw.use rfl (hK.2.2.1 ("ConfigBeacon", 141, "ConfigBeacon$Layer", "rollouts", "[LConfigBeacon$Rollout;") (by decide))) (fun _ h => h) rfl dX6_isFreeFor_25 ?_
    refine lv_iload_n hx hb dX6_isFreeFor_28 rfl (lv_at hl 3 rfl) ?_
    rcases hRl i9 j9 (by omega) (by omega) with ⟨e1, e2⟩ | ⟨e1, e2, -, -⟩
    · refine x_aald hx hb hK 3 rfl (hRo i9 (by omega)) j9 rfl (by omega) (by decide) (v := none) e1 dX6_isFreeFor_29 ?_
      refine lv_ifnonnullN hx hb dX6_isFreeFor_30 ?_
      refine lv_iconst (v := 1) hx hb dX6_isFreeFor_33 (by decide) ?_
      refine lv_goto (tgt := 38) hx hb dX6_isFreeFor_34 (by decide) ?_
      exact xr_zret hx hb hr hlocks (b := frF f i9 j9 o) (by rw [frF, c_1, e2]; decide) dX6_isFreeFor_38
    · refine x_aald hx hb hK 3 rfl (hRo i9 (by omega)) j9 rfl (by omega) (by decide) (v := some (nm 10 (16 * i9 + j9))) e1 dX6_isFreeFor_29 ?_
      refine lv_ifnonnull (tgt := 37) hx hb dX6_isFreeFor_30 (by decide) ?_
      refine lv_iconst (v := 0) hx hb dX6_isFreeFor_37 (by decide) ?_
      exact xr_zret hx hb hr hlocks (b := frF f i9 j9 o) (by rw [frF, c_1, decide_eq_false (Int32.not_lt.mpr e2)]; rfl) dX6_isFreeFor_38
set_option maxHeartbeats 4000000 in
set_option maxRecDepth 100000 in
theorem c_X6_isChangedBy (l : Launch) (D : va_G) (cA : Nat → ClassId) (lab : Nat → Nat) (nm : Nat → Nat → Nat) (rf : Nat → Nat → Option Nat) (f : Nat → Nat → Int32) (nC nL nV : Nat) (hi : CRi f nC nL nV) (w9 : Nat) (x9 : Nat → Int32) (i9 j9 : Nat) (hi8 : i9 < nL) (hj8 : j9 < 16) : Met l yX6_isChangedBy wsX6_isChangedBy (rmK 2 0 0) (xP D cA [.ref (nm 0 0), .ref w9, .int (nI i9), .int (nI j9)] (fun H => CRv D cA lab nm rf f nC nL nV H ∧ ENT D cA lab w9 x9 H)) (xR (some (.int (bI (!decide (f 7 (16 * i9 + j9) = x9 (16 * i9 + j9))))))) 0 0 (fun _ => False) := by
  refine Met.ofW (cc := cX6_isChangedBy) (maxL := 4) (ret := (some .boolean)) (by decide) rfl ?_
  intro p e s m args below meth c s₁ B hml hv
  obtain ⟨rfl, hK, hI⟩ := hv
  have hx := B.exec
  have hb := B.bytes
  have hr := B.returns
  have hts := atoms_spec (ws := wsX6_isChangedBy) B.pre
  have hown : s.vm.findClass RX6 = some m.cls := findClass_of_methodNamed B.named
  have hlocks := B.notSynchronized
  have hl := lv_entry ([.ref (nm 0 0), .ref w9, .int (nI i9), .int (nI j9)]) (n := 4) (Nat.le_of_ble_eq_true rfl)
  rw [lg_entry_eq]
  generalize (lg_sl ([.ref (nm 0 0), .ref w9, .int (nI i9), .int (nI j9)]) ++ List.replicate (4 - (lg_sl ([.ref (nm 0 0), .ref w9, .int (nI i9), .int (nI j9)])).length) Slot.unset).toArray = ls at hl ⊢
  have hl : lv_has ls 4 [(0, .ref (nm 0 0)), (1, .ref w9), (2, .int (nI i9)), (3, .int (nI j9))] := hl
  have h_X1 : ∀ w ∈ wsX10, w ∈ wsX6_isChangedBy := fun _ h => List.mem_cons_of_mem _ (List.mem_append_left _ (List.mem_append_right _ h))
  have h_X2 : ∀ w ∈ wsX20, w ∈ wsX6_isChangedBy := fun _ h => List.mem_cons_of_mem _ (List.mem_append_right _ h)
  have h_X6 : ∀ w ∈ wsX60, w ∈ wsX6_isChangedBy := fun _ h => List.mem_cons_of_mem _ (List.mem_append_left _ (List.mem_append_left _ (List.mem_append_right _ h)))
  obtain ⟨hI, hW⟩ := hI
  have hV := hI
  obtain ⟨hT, ⟨mcC, dC, capC, fC, hOC, hQC, hnC, hcC, hfC, -⟩, ⟨mcL, dL, capL, fL, hOL, hQL, hnL, hcL, hfL, -⟩, ⟨mcV, dV, capV, fV, hOV, hQV, hnV, hcV, hfV, -⟩, hC, hL, hHo, hRo, hCh, hRl, hEn⟩ := hI
  obtain ⟨b1, b2, b3, iSel, iGd, iCur, iZero, iLk, iLkA, iLkB⟩ := hi
  obtain ⟨ea9, ge9, hEo, hEq, hEr, -⟩ := hEn nV (Nat.le_refl _)
  obtain ⟨wa9, gw9, hWo, hWq, hWr, -⟩ := hW
  refine lv_aload_n hx hb dX6_isChangedBy_0 rfl (lv_at hl 0 rfl) ?_
  refine x_get (v := .ref (nm 7 nV)) hx hb hts h_X6 hown hK hT rfl 4 (by decide) (hts (.fieldLink RX6 32 "ConfigBeacon" "current" "LConfigBeacon$Entries;") (by decide +kernel)) (fun _ h => h) rfl dX6_isChangedBy_1 ?_
  refine lv_iload_n hx hb dX6_isChangedBy_4 rfl (lv_at hl 2 rfl) ?_
  refine lv_iload_n hx hb dX6_isChangedBy_5 rfl (lv_at hl 3 rfl) ?_
  refine xr_call (va_runV (As := [.int (nI i9), .int (nI j9)]) (rest := []) ⟨hx, hb, hml, hown, hts⟩ (c_X1_entryOf l D cA (nm 7 nV) ea9 ge9 i9 j9 (by omega) (by omega) (ge9 (16 * i9 + j9)) rfl) (cwV 2 hts gX6_isChangedBy_X1_entryOf rfl rfl rfl (by decide +kernel) ⟨Nat.le_of_ble_eq_true rfl, Nat.le_of_ble_eq_true rfl⟩) (xPV hK hEo rfl ⟨hEo, hEq⟩) rfl rfl hl.1 rfl (lv_room (Nat.le_of_ble_eq_true rfl)) dX6_isChangedBy_6 ⟨Nat.le_of_ble_eq_true rfl, Nat.le_of_ble_eq_true rfl⟩) ?_
  refine lv_aload_n hx hb dX6_isChangedBy_9 rfl (lv_at hl 1 rfl) ?_
  refine lv_iload_n hx hb dX6_isChangedBy_10 rfl (lv_at hl 2 rfl) ?_
  refine lv_iload_n hx hb dX6_isChangedBy_11 rfl (lv_at hl 3 rfl) ?_
  refine xr_call (va_runV (As := [.int (nI i9), .int (nI j9)]) (rest := [va_rf (ge9 (16 * i9 + j9))]) ⟨hx, hb, hml, hown, hts⟩ (c_X1_entryOf l D cA w9 wa9 gw9 i9 j9 (by omega) (by omega) (gw9 (16 * i9 + j9)) rfl) (cwV 2 hts gX6_isChangedBy_X1_entryOf rfl rfl rfl (by decide +kernel) ⟨Nat.le_of_ble_eq_true rfl, Nat.le_of_ble_eq_true rfl⟩) (xPV hK hWo rfl ⟨hWo, hWq⟩) rfl rfl hl.1 rfl (lv_room (by simp only [List.map_cons, List.map_nil, xq_cat, List.sum_cons, List.sum_nil]; first | decide | simp [Value.category])) dX6_isChangedBy_12 ⟨Nat.le_of_ble_eq_true rfl, Nat.le_of_ble_eq_true rfl⟩) ?_
  refine xr_call (va_runS (As := [va_rf (ge9 (16 * i9 + j9)), va_rf (gw9 (16 * i9 + j9))]) (rest := []) ⟨hx, hb, hml, hown, hts⟩ (c_X2_areSame l D cA (ge9 (16 * i9 + j9)) (gw9 (16 * i9 + j9)) (f 12 (128 * nV + (16 * i9 + j9))) (x9 (16 * i9 + j9))) (va_cwS 2 hts gX6_isChangedBy_X2_areSame rfl rfl rfl (by decide +kernel) ⟨Nat.le_of_ble_eq_true rfl, Nat.le_of_ble_eq_true rfl⟩) (xPS hK ⟨hEr _ (by omega), hWr _ (by omega)⟩) rfl rfl hl.1 rfl (lv_room (Nat.le_of_ble_eq_true rfl)) dX6_isChangedBy_15 ⟨Nat.le_of_ble_eq_true rfl, Nat.le_of_ble_eq_true rfl⟩) ?_
  refine xb_ne (tgt := 25) hx hb dX6_isChangedBy_18 (by decide) (fun c_1 => ?_) (fun c_1 => ?_)
  · refine lv_iconst (v := 0) hx hb dX6_isChangedBy_25 (by decide) ?_
    exact xr_zret hx hb hr hlocks (b := !decide (f 7 (16 * i9 + j9) = x9 (16 * i9 + j9))) (by rw [iCur _ (by omega), c_1]; rfl) dX6_isChangedBy_26
  · refine lv_iconst (v := 1) hx hb dX6_isChangedBy_21 (by decide) ?_
    refine lv_goto (tgt := 26) hx hb dX6_isChangedBy_22 (by decide) ?_
    exact xr_zret hx hb hr hlocks (b := !decide (f 7 (16 * i9 + j9) = x9 (16 * i9 + j9))) (by rw [iCur _ (by omega), c_1]; rfl) dX6_isChangedBy_26
set_option maxHeartbeats 4000000 in
set_option maxRecDepth 100000 in
theorem c_X6_canTurnInto (l : Launch) (D : va_G) (cA : Nat → ClassId) (lab : Nat → Nat) (nm : Nat → Nat → Nat) (rf : Nat → Nat → Option Nat) (f : Nat → Nat → Int32) (nC nL nV : Nat) (hi : CRi f nC nL nV) (w9 : Nat) (x9 : Nat → Int32) (o : Int32) : Met l yX6_canTurnInto wsX6_canTurnInto (rmK 4 0 0) (xP D cA [.ref (nm 0 0), .ref w9, .int o] (fun H => CRv D cA lab nm rf f nC nL nV H ∧ ENT D cA lab w9 x9 H)) (xR (some (.int (bI (!anyF (barC f x9 o) (16 * nL)))))) 0 0 (fun _ => False) := by
  refine Met.ofW (cc := cX6_canTurnInto) (maxL := 5) (ret := (some .boolean)) (by decide) rfl ?_
  intro p e s m args below meth c s₁ B hml hv
  obtain ⟨rfl, hK, hI⟩ := hv
  have hx := B.exec
  have hb := B.bytes
  have hr := B.returns
  have hts := atoms_spec (ws := wsX6_canTurnInto) B.pre
  have hown : s.vm.findClass RX6 = some m.cls := findClass_of_methodNamed B.named
  have hlocks := B.notSynchronized
  have hl := lv_entry ([.ref (nm 0 0), .ref w9, .int o]) (n := 5) (Nat.le_of_ble_eq_true rfl)
  rw [lg_entry_eq]
  generalize (lg_sl ([.ref (nm 0 0), .ref w9, .int o]) ++ List.replicate (5 - (lg_sl ([.ref (nm 0 0), .ref w9, .int o])).length) Slot.unset).toArray = ls at hl ⊢
  have hl : lv_has ls 5 [(0, .ref (nm 0 0)), (1, .ref w9), (2, .int o)] := hl
  have h_X1 : ∀ w ∈ wsX10, w ∈ wsX6_canTurnInto := fun _ h => List.mem_cons_of_mem _ (List.mem_append_left _ (List.mem_append_left _ (List.mem_append_right _ h)))
  have h_X2 : ∀ w ∈ wsX20, w ∈ wsX6_canTurnInto := fun _ h => List.mem_cons_of_mem _ (List.mem_append_left _ (List.mem_append_right _ h))
  have h_X4 : ∀ w ∈ wsX40, w ∈ wsX6_canTurnInto := fun _ h => List.mem_cons_of_mem _ (List.mem_append_right _ h)
  have h_X6 : ∀ w ∈ wsX60, w ∈ wsX6_canTurnInto := fun _ h => List.mem_cons_of_mem _ (List.mem_append_left _ (List.mem_append_left _ (List.mem_append_left _ (List.mem_append_left _ (List.mem_append_right _ h)))))
  have h_Jx4a65c : ∀ w ∈ wsJx4a65c0, w ∈ wsX6_canTurnInto := fun _ h => List.mem_cons_of_mem _ (List.mem_append_left _ (List.mem_append_left _ (List.mem_append_left _ (List.mem_append_right _ h))))
  obtain ⟨hI, hW⟩ := hI
  have hV := hI
  obtain ⟨hT, ⟨mcC, dC, capC, fC, hOC, hQC, hnC, hcC, hfC, -⟩, ⟨mcL, dL, capL, fL, hOL, hQL, hnL, hcL, hfL, -⟩, ⟨mcV, dV, capV, fV, hOV, hQV, hnV, hcV, hfV, -⟩, hC, hL, hHo, hRo, hCh, hRl, hEn⟩ := hI
  obtain ⟨b1, b2, b3, iSel, iGd, iCur, iZero, iLk, iLkA, iLkB⟩ := hi
  refine lv_iconst (v := 0) hx hb dX6_canTurnInto_0 (by decide) ?_
  refine lv_istore_n (lv' := [(3, .int 0), (0, .ref (nm 0 0)), (1, .ref w9), (2, .int o)]) hx hb dX6_canTurnInto_1 rfl hl (by decide) rfl (fun ls hl => ?_)
  refine w_loopR (fun (i : Nat) ls => i ≤ nL ∧ anyF (barC f x9 o) (16 * i) = false ∧ lv_has ls 5 [(0, .ref (nm 0 0)), (1, .ref w9), (2, .int o), (3, .int (nI i))]) (fun (i : Nat) => nL - i) ?_ 0 ⟨Nat.zero_le _, rfl, lv_sub hl [1, 2, 3, 0] rfl⟩
  intro i ls h9 ih1
  obtain ⟨hi8, ha1, hl⟩ := h9
  refine lv_iload_n hx hb dX6_canTurnInto_2 rfl (lv_at hl 3 rfl) ?_
  refine lv_aload_n hx hb dX6_canTurnInto_3 rfl (lv_at hl 0 rfl) ?_
  refine x_get (v := .ref (nm 1 1)) hx hb hts h_X6 hown hK hT rfl 1 (by decide) (hts (.fieldLink RX6 16 "ConfigBeacon" "allLayers" "Ljava/util/ArrayList;") (by decide +kernel)) (fun _ h => h) rfl dX6_canTurnInto_4 ?_
  refine xr_call (va_runV (As := []) (rest := [.int (nI i)]) ⟨hx, hb, hml, hown, hts⟩ (c_Jx4a65c_size_8abf5 l D cA (nm 1 1) mcL dL nL) (cwV 0 hts gX6_canTurnInto_Jx4a65c_size_8abf5 rfl rfl rfl (by decide +kernel) ⟨Nat.le_of_ble_eq_true rfl, Nat.le_of_ble_eq_true rfl⟩) (xPV hK hOL rfl hOL) rfl rfl hl.1 rfl (lv_room (Nat.le_of_ble_eq_true rfl)) dX6_canTurnInto_7 ⟨Nat.le_of_ble_eq_true rfl, Nat.le_of_ble_eq_true rfl⟩) ?_
  refine lv_icmp_ge (tgt := 59) hx hb dX6_canTurnInto_10 (by decide) (fun c_1 => ?_) (fun c_1 => ?_)
  · have n_1 : nL ≤ i := (nI_leI (a := nL) (b := i) (by omega) (by omega)).mp c_1
    refine lv_iconst (v := 1) hx hb dX6_canTurnInto_59 (by decide) ?_
    exact xr_zret hx hb hr hlocks (b := !anyF (barC f x9 o) (16 * nL)) (by rw [show nL = i by omega, ha1]; rfl) dX6_canTurnInto_60
  · have n_1 : i < nL := Nat.not_le.mp (fun q => c_1 ((nI_leI (a := nL) (b := i) (by omega) (by omega)).mpr q))
    refine lv_iconst (v := 0) hx hb dX6_canTurnInto_13 (by decide) ?_
    refine lv_istore (lv' := [(4, .int 0), (0, .ref (nm 0 0)), (1, .ref w9), (2, .int o), (3, .int (nI i))]) hx hb dX6_canTurnInto_14 hl (by decide) rfl (fun ls hl => ?_)
    refine w_loopR (fun (j : Nat) ls => j ≤ 16 ∧ anyF (barC f x9 o) (16 * i + j) = false ∧ lv_has ls 5 [(0, .ref (nm 0 0)), (1, .ref w9), (2, .int o), (3, .int (nI i)), (4, .int (nI j))]) (fun (j : Nat) => 16 - j) ?_ 0 ⟨Nat.zero_le _, ha1, lv_sub hl [1, 2, 3, 4, 0] rfl⟩
    intro j ls h9 ih2
    obtain ⟨hj8, ha2, hl⟩ := h9
    refine lv_iload hx hb dX6_canTurnInto_16 (lv_at hl 4 rfl) ?_
    refine lv_bipush (v := 16) hx hb dX6_canTurnInto_18 (by decide) ?_
    refine lv_icmp_ge (tgt := 53) hx hb dX6_canTurnInto_20 (by decide) (fun c_2 => ?_) (fun c_2 => ?_)
    · have n_2 : 16 ≤ j := (nI_leI (a := 16) (b := j) (by omega) (by omega)).mp c_2
      refine lv_iinc (v := (nI (i + 1))) (lv' := [(3, .int (nI (i + 1))), (0, .ref (nm 0 0)), (1, .ref w9), (2, .int o), (4, .int (nI j))]) hx hb dX6_canTurnInto_53 hl (k := 3) rfl (ni_inc i) (by decide) rfl (fun ls hl => ?_)
      refine lv_goto (tgt := 2) hx hb dX6_canTurnInto_56 (by decide) ?_
      exact ih1 (i + 1) _ ⟨(by omega), (by rw [show 16 * (i + 1) = 16 * i + j by omega]; exact ha2), lv_sub hl [1, 2, 3, 0] rfl⟩ (by omega)
    · have n_2 : j < 16 := Nat.not_le.mp (fun q => c_2 ((nI_leI (a := 16) (b := j) (by omega) (by omega)).mpr q))
      refine lv_aload_n hx hb dX6_canTurnInto_23 rfl (lv_at hl 0 rfl) ?_
      refine lv_aload_n hx hb dX6_canTurnInto_24 rfl (lv_at hl 1 rfl) ?_
      refine lv_iload_n hx hb dX6_canTurnInto_25 rfl (lv_at hl 3 rfl) ?_
      refine lv_iload hx hb dX6_canTurnInto_26 (lv_at hl 4 rfl) ?_
      refine xr_call (va_runV (As := [.ref w9, .int (nI i), .int (nI j)]) (rest := []) ⟨hx, hb, hml, hown, hts⟩ (c_X6_isChangedBy l D cA lab nm rf f nC nL nV (⟨b1, b2, b3, iSel, iGd, iCur, iZero, iLk, iLkA, iLkB⟩) w9 x9 i j (by omega) (by omega)) (cwV 3 hts gX6_canTurnInto_X6_isChangedBy rfl rfl rfl (by decide +kernel) ⟨Nat.le_of_ble_eq_true rfl, Nat.le_of_ble_eq_true rfl⟩) (xPV hK hT rfl ⟨hV, hW⟩) rfl rfl hl.1 rfl (lv_room (Nat.le_of_ble_eq_true rfl)) dX6_canTurnInto_28 ⟨Nat.le_of_ble_eq_true rfl, Nat.le_of_ble_eq_true rfl⟩) ?_
      refine xb_eq (tgt := 47) hx hb dX6_canTurnInto_31 (by decide) (fun c_3 => ?_) (fun c_3 => ?_)
      · refine lv_iinc (v := (nI (j + 1))) (lv' := [(4, .int (nI (j + 1))), (0, .ref (nm 0 0)), (1, .ref w9), (2, .int o), (3, .int (nI i))]) hx hb dX6_canTurnInto_47 hl (k := 4) rfl (ni_inc j) (by decide) rfl (fun ls hl => ?_)
        refine lv_goto (tgt := 16) hx hb dX6_canTurnInto_50 (by decide) ?_
        exact ih2 (j + 1) _ ⟨(by omega), (by show (anyF (barC f x9 o) (16 * i + j) || barC f x9 o (16 * i + j)) = false; rw [ha2, barC_at (by omega)]; simp [c_1, c_2, c_3]), lv_sub hl [1, 2, 3, 4, 0] rfl⟩ (by omega)
      · refine lv_aload_n hx hb dX6_canTurnInto_34 rfl (lv_at hl 0 rfl) ?_
        refine lv_iload_n hx hb dX6_canTurnInto_35 rfl (lv_at hl 3 rfl) ?_
        refine lv_iload hx hb dX6_canTurnInto_36 (lv_at hl 4 rfl) ?_
        refine lv_iload_n hx hb dX6_canTurnInto_38 rfl (lv_at hl 2 rfl) ?_
        refine xr_call (va_runV (As := [.int (nI i), .int (nI j), .int o]) (rest := []) ⟨hx, hb, hml, hown, hts⟩ (c_X6_isFreeFor l D cA lab nm rf f nC nL nV (⟨b1, b2, b3, iSel, iGd, iCur, iZero, iLk, iLkA, iLkB⟩) i j o (by omega) (by omega)) (cwV 3 hts gX6_canTurnInto_X6_isFreeFor rfl rfl rfl (by decide +kernel) ⟨Nat.le_of_ble_eq_true rfl, Nat.le_of_ble_eq_true rfl⟩) (xPV hK hT rfl hV) rfl rfl hl.1 rfl (lv_room (Nat.le_of_ble_eq_true rfl)) dX6_canTurnInto_39 ⟨Nat.le_of_ble_eq_true rfl, Nat.le_of_ble_eq_true rfl⟩) ?_
        refine xb_ne (tgt := 47) hx hb dX6_canTurnInto_42 (by decide) (fun c_4 => ?_) (fun c_4 => ?_)
        · refine lv_iinc (v := (nI (j + 1))) (lv' := [(4, .int (nI (j + 1))), (0, .ref (nm 0 0)), (1, .ref w9), (2, .int o), (3, .int (nI i))]) hx hb dX6_canTurnInto_47 hl (k := 4) rfl (ni_inc j) (by decide) rfl (fun ls hl => ?_)
          refine lv_goto (tgt := 16) hx hb dX6_canTurnInto_50 (by decide) ?_
          exact ih2 (j + 1) _ ⟨(by omega), (by show (anyF (barC f x9 o) (16 * i + j) || barC f x9 o (16 * i + j)) = false; rw [ha2, barC_at (by omega)]; simp [c_1, c_2, c_3, c_4]), lv_sub hl [1, 2, 3, 4, 0] rfl⟩ (by omega)
        · refine lv_iconst (v := 0) hx hb dX6_canTurnInto_45 (by decide) ?_
          exact xr_zret hx hb hr hlocks (b := !anyF (barC f x9 o) (16 * nL)) (by rw [anyF_of (p := (barC f x9 o)) (i := 16 * i + j) (by rw [barC_at (by omega)]; simp [c_1, c_2, c_3, c_4]) (by omega)]; rfl) dX6_canTurnInto_46
