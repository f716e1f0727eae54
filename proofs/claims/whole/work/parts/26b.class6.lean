set_option maxHeartbeats 4000000 in
set_option maxRecDepth 100000 in
theorem c_X6_shownEntry (l : Launch) (D : va_G) (cA : Nat → ClassId) (lab : Nat → Nat) (nm : Nat → Nat → Nat) (rf : Nat → Nat → Option Nat) (f : Nat → Nat → Int32) (nC nL nV : Nat) (hi : CRi f nC nL nV) (ie9 k9 : Nat) (w : Option Nat) (lo uw kn oc fa : Int32) (hk9 : k9 < nC) (A7 : Nat → Prop) (hl9 : CRl A7 lab nm rf nC nL) (i9 j9 : Nat) (hi8 : i9 < nL) (hj8 : j9 < 16) : Met l yX6_shownEntry wsX6_shownEntry (rmK 3 0 0) (xP D cA [.ref (nm 0 0), .int (nI i9), .int (nI j9)] (fun H => CRv D cA lab nm rf f nC nL nV H ∧ INQ D cA lab nm f ie9 k9 w lo uw kn oc fa H)) (xRq (fun r H => eR D r (shwF f k9 (16 * i9 + j9) w) H ∧ ∀ q, r = some q → lab q = 10)) 0 0 (fun _ => False) := by
  refine Met.ofW (cc := cX6_shownEntry) (maxL := 4) (ret := (some (.object "ConfigBeacon$Entry"))) (by decide) rfl ?_
  intro p e s m args below meth c s₁ B hml hv
  obtain ⟨rfl, hK, hI⟩ := hv
  have hx := B.exec
  have hb := B.bytes
  have hr := B.returns
  have hts := atoms_spec (ws := wsX6_shownEntry) B.pre
  have hown : s.vm.findClass RX6 = some m.cls := findClass_of_methodNamed B.named
  have hlocks := B.notSynchronized
  have hl := lv_entry ([.ref (nm 0 0), .int (nI i9), .int (nI j9)]) (n := 4) (Nat.le_of_ble_eq_true rfl)
  rw [lg_entry_eq]
  generalize (lg_sl ([.ref (nm 0 0), .int (nI i9), .int (nI j9)]) ++ List.replicate (4 - (lg_sl ([.ref (nm 0 0), .int (nI i9), .int (nI j9)])).length) Slot.unset).toArray = ls at hl ⊢
  have hl : lv_has ls 4 [(0, .ref (nm 0 0)), (1, .int (nI i9)), (2, .int (nI j9))] := hl
  have h_X1 : ∀ w ∈ wsX10, w ∈ wsX6_shownEntry := fun _ h => List.mem_cons_of_mem _ (List.mem_append_right _ h)
  have h_X3 : ∀ w ∈ wsX30, w ∈ wsX6_shownEntry := fun _ h => List.mem_cons_of_mem _ (List.mem_append_left _ (List.mem_append_left _ (List.mem_append_left _ (List.mem_append_left _ (List.mem_append_right _ h)))))
  have h_X4 : ∀ w ∈ wsX40, w ∈ wsX6_shownEntry := fun _ h => List.mem_cons_of_mem _ (List.mem_append_left _ (List.mem_append_left _ (List.mem_append_right _ h)))
  have h_X5 : ∀ w ∈ wsX50, w ∈ wsX6_shownEntry := fun _ h => List.mem_cons_of_mem _ (List.mem_append_left _ (List.mem_append_right _ h))
  have h_X6 : ∀ w ∈ wsX60, w ∈ wsX6_shownEntry := fun _ h => List.mem_cons_of_mem _ (List.mem_append_left _ (List.mem_append_left _ (List.mem_append_left _ (List.mem_append_left _ (List.mem_append_left _ (List.mem_append_right _ h))))))
  have h_Jx4a65c : ∀ w ∈ wsJx4a65c0, w ∈ wsX6_shownEntry := fun _ h => List.mem_cons_of_mem _ (List.mem_append_left _ (List.mem_append_left _ (List.mem_append_left _ (List.mem_append_right _ h))))
  obtain ⟨hI, hQ0⟩ := hI
  have hV := hI
  obtain ⟨hT, ⟨mcC, dC, capC, fC, hOC, hQC, hnC, hcC, hfC, -⟩, ⟨mcL, dL, capL, fL, hOL, hQL, hnL, hcL, hfL, -⟩, ⟨mcV, dV, capV, fV, hOV, hQV, hnV, hcV, hfV, -⟩, hC, hL, hHo, hRo, hCh, hRl, hEn⟩ := hI
  obtain ⟨b1, b2, b3, iSel, iGd, iCur, iZero, iLk, iLkA, iLkB⟩ := hi
  have hQ1 := hQ0
  obtain ⟨hIq, ia9, gi9, hIo, hIe, hIr, -, -, hIl⟩ := hQ1
  refine lv_aload_n hx hb dX6_shownEntry_0 rfl (lv_at hl 0 rfl) ?_
  refine x_get (v := .ref (nm 9 0)) hx hb hts h_X6 hown hK hT rfl 3 (by decide) (hts (.fieldLink RX6 25 "ConfigBeacon" "inquiry" "LConfigBeacon$Inquiry;") (by decide +kernel)) (fun _ h => h) rfl dX6_shownEntry_1 ?_
  refine x_getN (v := .int (wrI w)) hx hb hts h_X3 hown hK hIq rfl 3 (by decide) (va_Nw.use rfl (hK.2.2.1 ("ConfigBeacon", 319, "ConfigBeacon$Inquiry", "withRollouts", "Z") (by decide))) (fun _ h => h) rfl dX6_shownEntry_4 ?_
  cases w with
  | none =>
    refine lv_if_eq (tgt := 39) hx hb dX6_shownEntry_7 (by decide) (fun q => absurd q (by decide)) (fun _ => ?_)
    refine lv_aload_n hx hb dX6_shownEntry_10 rfl (lv_at hl 0 rfl) ?_
    refine x_get (v := .ref (nm 1 1)) hx hb hts h_X6 hown hK hT rfl 1 (by decide) (hts (.fieldLink RX6 16 "ConfigBeacon" "allLayers" "Ljava/util/ArrayList;") (by decide +kernel)) (fun _ h => h) rfl dX6_shownEntry_11 ?_
    refine lv_iload_n hx hb dX6_shownEntry_14 rfl (lv_at hl 1 rfl) ?_
    refine xr_call (va_runV (As := [.int (nI i9)]) (rest := []) ⟨hx, hb, hml, hown, hts⟩ (c_Jx4a65c_get_915e3 l D cA (nm 1 1) mcL dL nL capL fL i9 (by omega) hnL hcL (some (nm 3 i9)) (hfL i9 (by omega))) (cwV 1 hts gX6_shownEntry_Jx4a65c_get_915e3 rfl rfl rfl (by decide +kernel) ⟨Nat.le_of_ble_eq_true rfl, Nat.le_of_ble_eq_true rfl⟩) (xPV hK hOL rfl ⟨hOL, hQL (by omega)⟩) rfl rfl hl.1 rfl (lv_room (Nat.le_of_ble_eq_true rfl)) dX6_shownEntry_15 ⟨Nat.le_of_ble_eq_true rfl, Nat.le_of_ble_eq_true rfl⟩) ?_
    refine x_cast hx hb hown (hts (.classLink RX6 84 "ConfigBeacon$Layer") (by decide +kernel)) hK (hL i9 (by omega)) rfl dX6_shownEntry_18 ?_
    refine lv_aload_n hx hb dX6_shownEntry_21 rfl (lv_at hl 0 rfl) ?_
    refine x_get (v := .ref (nm 9 0)) hx hb hts h_X6 hown hK hT rfl 3 (by decide) (hts (.fieldLink RX6 25 "ConfigBeacon" "inquiry" "LConfigBeacon$Inquiry;") (by decide +kernel)) (fun _ h => h) rfl dX6_shownEntry_22 ?_
    refine x_getN (v := .int (nI k9)) hx hb hts h_X3 hown hK hIq rfl 1 (by decide) (va_Nw.use rfl (hK.2.2.1 ("ConfigBeacon", 316, "ConfigBeacon$Inquiry", "client", "I") (by decide))) (fun _ h => h) rfl dX6_shownEntry_25 ?_
    refine lv_iload_n hx hb dX6_shownEntry_28 rfl (lv_at hl 2 rfl) ?_
    have hR9 := hRl i9 j9 (by omega) (by omega)
    refine xr_call (va_runV (As := [.int (nI k9), .int (nI j9)]) (rest := []) ⟨hx, hb, hml, hown, hts⟩ (c_X4_newEntryFor l D cA (nm 3 i9) i9 (f 4 i9) (f 5 i9) (f 3 i9) (nm 4 i9) (nm 5 i9) (nm 6 i9) k9 j9 (by omega) (by omega) (by omega) (rf i9) (rf i9 j9) rfl (nm 11 (16 * i9 + j9)) (f 10 (16 * i9 + j9))) (cwV 2 hts gX6_shownEntry_X4_newEntryFor rfl rfl rfl (by decide +kernel) ⟨Nat.le_of_ble_eq_true rfl, Nat.le_of_ble_eq_true rfl⟩) (xPV hK (hL i9 (by omega)) rfl ⟨hL i9 (by omega), hRo i9 (by omega), fun r hr9 => by rcases hR9 with ⟨e1, -⟩ | ⟨e1, -, e3, -⟩; (· rw [e1] at hr9; cases hr9); (· rw [e1] at hr9; cases hr9; exact e3)⟩) rfl rfl hl.1 rfl (lv_room (Nat.le_of_ble_eq_true rfl)) dX6_shownEntry_29 ⟨Nat.le_of_ble_eq_true rfl, Nat.le_of_ble_eq_true rfl⟩) ?_
    rcases newE (c := k9) (by omega) hR9 with ⟨e1, e2⟩ | ⟨e1, e2, e3⟩
    · rw [e1]
      refine lv_astore_nN (lv' := [(3, .null), (0, .ref (nm 0 0)), (1, .int (nI i9)), (2, .int (nI j9))]) hx hb dX6_shownEntry_32 rfl hl (by decide) rfl (fun ls hl => ?_)
      refine lv_aload_nN hx hb dX6_shownEntry_33 rfl (lv_at hl 0 rfl) ?_
      refine lv_ifnullN (tgt := 39) hx hb dX6_shownEntry_34 (by decide) ?_
      refine lv_aload_n hx hb dX6_shownEntry_39 rfl (lv_at hl 1 rfl) ?_
      refine x_get (v := .ref (nm 9 0)) hx hb hts h_X6 hown hK hT rfl 3 (by decide) (hts (.fieldLink RX6 25 "ConfigBeacon" "inquiry" "LConfigBeacon$Inquiry;") (by decide +kernel)) (fun _ h => h) rfl dX6_shownEntry_40 ?_
      refine x_getN (v := .ref ie9) hx hb hts h_X3 hown hK hIq rfl 2 (by decide) (va_Nw.use rfl (hK.2.2.1 ("ConfigBeacon", 323, "ConfigBeacon$Inquiry", "entries", "LConfigBeacon$Entries;") (by decide))) (fun _ h => h) rfl dX6_shownEntry_43 ?_
      refine lv_iload_n hx hb dX6_shownEntry_46 rfl (lv_at hl 2 rfl) ?_
      refine lv_iload_n hx hb dX6_shownEntry_47 rfl (lv_at hl 3 rfl) ?_
      refine xr_call (va_runV (As := [.int (nI i9), .int (nI j9)]) (rest := []) ⟨hx, hb, hml, hown, hts⟩ (c_X1_entryOf l D cA ie9 ia9 gi9 i9 j9 (by omega) (by omega) (gi9 (16 * i9 + j9)) rfl) (cwV 2 hts gX6_shownEntry_X1_entryOf rfl rfl rfl (by decide +kernel) ⟨Nat.le_of_ble_eq_true rfl, Nat.le_of_ble_eq_true rfl⟩) (xPV hK hIo rfl ⟨hIo, hIe⟩) rfl rfl hl.1 rfl (lv_room (Nat.le_of_ble_eq_true rfl)) dX6_shownEntry_48 ⟨Nat.le_of_ble_eq_true rfl, Nat.le_of_ble_eq_true rfl⟩) ?_
      exact xr_qret hx hb hr rfl hlocks (by rw [shw_f (w := none) e2]; exact ⟨hIr _ (by omega), fun q hq => hIl _ q (by omega) hq⟩) dX6_shownEntry_51
    · rw [e1]
      refine lv_astore_n (lv' := [(3, .ref (nm 11 (16 * i9 + j9))), (0, .ref (nm 0 0)), (1, .int (nI i9)), (2, .int (nI j9))]) hx hb dX6_shownEntry_32 rfl hl (by decide) rfl (fun ls hl => ?_)
      refine lv_aload_n hx hb dX6_shownEntry_33 rfl (lv_at hl 0 rfl) ?_
      refine lv_ifnull hx hb dX6_shownEntry_34 ?_
      refine lv_aload_n hx hb dX6_shownEntry_37 rfl (lv_at hl 0 rfl) ?_
      exact xr_qret (v := some (nm 11 (16 * i9 + j9))) hx hb hr rfl hlocks (by rw [shw_t e2]; exact ⟨e3, fun q hq => by cases hq; exact (hl9.2.2.2.2.2.2.2.2.2 i9 j9 (by omega) (by omega) (fun z => by rw [z] at e1; exact absurd e1 (by simp [neF]))).2⟩) dX6_shownEntry_38
  | some v9 =>
    refine lv_if_eq (tgt := 39) hx hb dX6_shownEntry_7 (by decide) (fun _ => ?_) (fun q => absurd (rfl : wrI (some v9) = 0) q)
    refine lv_aload_n hx hb dX6_shownEntry_39 rfl (lv_at hl 0 rfl) ?_
    refine x_get (v := .ref (nm 9 0)) hx hb hts h_X6 hown hK hT rfl 3 (by decide) (hts (.fieldLink RX6 25 "ConfigBeacon" "inquiry" "LConfigBeacon$Inquiry;") (by decide +kernel)) (fun _ h => h) rfl dX6_shownEntry_40 ?_
    refine x_getN (v := .ref ie9) hx hb hts h_X3 hown hK hIq rfl 2 (by decide) (va_Nw.use rfl (hK.2.2.1 ("ConfigBeacon", 323, "ConfigBeacon$Inquiry", "entries", "LConfigBeacon$Entries;") (by decide))) (fun _ h => h) rfl dX6_shownEntry_43 ?_
    refine lv_iload_n hx hb dX6_shownEntry_46 rfl (lv_at hl 1 rfl) ?_
    refine lv_iload_n hx hb dX6_shownEntry_47 rfl (lv_at hl 2 rfl) ?_
    refine xr_call (va_runV (As := [.int (nI i9), .int (nI j9)]) (rest := []) ⟨hx, hb, hml, hown, hts⟩ (c_X1_entryOf l D cA ie9 ia9 gi9 i9 j9 (by omega) (by omega) (gi9 (16 * i9 + j9)) rfl) (cwV 2 hts gX6_shownEntry_X1_entryOf rfl rfl rfl (by decide +kernel) ⟨Nat.le_of_ble_eq_true rfl, Nat.le_of_ble_eq_true rfl⟩) (xPV hK hIo rfl ⟨hIo, hIe⟩) rfl rfl hl.1 rfl (lv_room (Nat.le_of_ble_eq_true rfl)) dX6_shownEntry_48 ⟨Nat.le_of_ble_eq_true rfl, Nat.le_of_ble_eq_true rfl⟩) ?_
    exact xr_qret hx hb hr rfl hlocks (by rw [shw_f (w := (some v9)) rfl]; exact ⟨hIr _ (by omega), fun q hq => hIl _ q (by omega) hq⟩) dX6_shownEntry_51
set_option maxHeartbeats 4000000 in
set_option maxRecDepth 100000 in
theorem c_X6_decidingLayer (l : Launch) (D : va_G) (cA : Nat → ClassId) (lab : Nat → Nat) (nm : Nat → Nat → Nat) (rf : Nat → Nat → Option Nat) (f : Nat → Nat → Int32) (nC nL nV : Nat) (hi : CRi f nC nL nV) (ie9 k9 : Nat) (w : Option Nat) (lo uw kn oc fa : Int32) (hk9 : k9 < nC) (A7 : Nat → Prop) (hl9 : CRl A7 lab nm rf nC nL) (b9 : Nat) (hb9 : b9 < 16) : Met l yX6_decidingLayer wsX6_decidingLayer (rmK 4 0 0) (xP D cA [.ref (nm 0 0), .int (nI b9)] (fun H => CRv D cA lab nm rf f nC nL nV H ∧ INQ D cA lab nm f ie9 k9 w lo uw kn oc fa H)) (xR (some (.int (loI (decO f k9 b9 w nL))))) 0 0 (fun _ => False) := by
  refine Met.ofW (cc := cX6_decidingLayer) (maxL := 4) (ret := (some .int)) (by decide) rfl ?_
  intro p e s m args below meth c s₁ B hml hv
  obtain ⟨rfl, hK, hI⟩ := hv
  have hx := B.exec
  have hb := B.bytes
  have hr := B.returns
  have hts := atoms_spec (ws := wsX6_decidingLayer) B.pre
  have hown : s.vm.findClass RX6 = some m.cls := findClass_of_methodNamed B.named
  have hlocks := B.notSynchronized
  have hl := lv_entry ([.ref (nm 0 0), .int (nI b9)]) (n := 4) (Nat.le_of_ble_eq_true rfl)
  rw [lg_entry_eq]
  generalize (lg_sl ([.ref (nm 0 0), .int (nI b9)]) ++ List.replicate (4 - (lg_sl ([.ref (nm 0 0), .int (nI b9)])).length) Slot.unset).toArray = ls at hl ⊢
  have hl : lv_has ls 4 [(0, .ref (nm 0 0)), (1, .int (nI b9))] := hl
  have h_X0 : ∀ w ∈ wsX00, w ∈ wsX6_decidingLayer := fun _ h => List.mem_cons_of_mem _ (List.mem_append_left _ (List.mem_append_left _ (List.mem_append_right _ h)))
  have h_X1 : ∀ w ∈ wsX10, w ∈ wsX6_decidingLayer := fun _ h => List.mem_cons_of_mem _ (List.mem_append_right _ h)
  have h_X3 : ∀ w ∈ wsX30, w ∈ wsX6_decidingLayer := fun _ h => List.mem_cons_of_mem _ (List.mem_append_left _ (List.mem_append_left _ (List.mem_append_left _ (List.mem_append_left _ (List.mem_append_left _ (List.mem_append_right _ h))))))
  have h_X4 : ∀ w ∈ wsX40, w ∈ wsX6_decidingLayer := fun _ h => List.mem_cons_of_mem _ (List.mem_append_left _ (List.mem_append_left _ (List.mem_append_left _ (List.mem_append_right _ h))))
  have h_X5 : ∀ w ∈ wsX50, w ∈ wsX6_decidingLayer := fun _ h => List.mem_cons_of_mem _ (List.mem_append_left _ (List.mem_append_right _ h))
  have h_X6 : ∀ w ∈ wsX60, w ∈ wsX6_decidingLayer := fun _ h => List.mem_cons_of_mem _ (List.mem_append_left _ (List.mem_append_left _ (List.mem_append_left _ (List.mem_append_left _ (List.mem_append_left _ (List.mem_append_left _ (List.mem_append_right _ h)))))))
  have h_Jx4a65c : ∀ w ∈ wsJx4a65c0, w ∈ wsX6_decidingLayer := fun _ h => List.mem_cons_of_mem _ (List.mem_append_left _ (List.mem_append_left _ (List.mem_append_left _ (List.mem_append_left _ (List.mem_append_right _ h)))))
  obtain ⟨hI, hQ0⟩ := hI
  have hV := hI
  obtain ⟨hT, ⟨mcC, dC, capC, fC, hOC, hQC, hnC, hcC, hfC, -⟩, ⟨mcL, dL, capL, fL, hOL, hQL, hnL, hcL, hfL, -⟩, ⟨mcV, dV, capV, fV, hOV, hQV, hnV, hcV, hfV, -⟩, hC, hL, hHo, hRo, hCh, hRl, hEn⟩ := hI
  obtain ⟨b1, b2, b3, iSel, iGd, iCur, iZero, iLk, iLkA, iLkB⟩ := hi
  have hQ1 := hQ0
  obtain ⟨hIq, ia9, gi9, hIo, hIe, hIr, -, -, hIl⟩ := hQ1
  refine lv_iconst (v := (-1)) hx hb dX6_decidingLayer_0 (by decide) ?_
  refine lv_istore_n (lv' := [(2, .int (-1)), (0, .ref (nm 0 0)), (1, .int (nI b9))]) hx hb dX6_decidingLayer_1 rfl hl (by decide) rfl (fun ls hl => ?_)
  refine lv_iconst (v := 0) hx hb dX6_decidingLayer_2 (by decide) ?_
  refine lv_istore_n (lv' := [(3, .int 0), (2, .int (-1)), (0, .ref (nm 0 0)), (1, .int (nI b9))]) hx hb dX6_decidingLayer_3 rfl hl (by decide) rfl (fun ls hl => ?_)
  refine w_loopR (fun (i : Nat) ls => i ≤ nL ∧ lv_has ls 4 [(0, .ref (nm 0 0)), (1, .int (nI b9)), (2, .int (loI (decO f k9 b9 w i))), (3, .int (nI i))]) (fun (i : Nat) => nL - i) ?_ 0 ⟨Nat.zero_le _, lv_sub hl [2, 3, 1, 0] rfl⟩
  intro i ls h9 ih
  obtain ⟨hi8, hl⟩ := h9
  refine lv_iload_n hx hb dX6_decidingLayer_4 rfl (lv_at hl 3 rfl) ?_
  refine lv_aload_n hx hb dX6_decidingLayer_5 rfl (lv_at hl 0 rfl) ?_
  refine x_get (v := .ref (nm 1 1)) hx hb hts h_X6 hown hK hT rfl 1 (by decide) (hts (.fieldLink RX6 16 "ConfigBeacon" "allLayers" "Ljava/util/ArrayList;") (by decide +kernel)) (fun _ h => h) rfl dX6_decidingLayer_6 ?_
  refine xr_call (va_runV (As := []) (rest := [.int (nI i)]) ⟨hx, hb, hml, hown, hts⟩ (c_Jx4a65c_size_8abf5 l D cA (nm 1 1) mcL dL nL) (cwV 0 hts gX6_decidingLayer_Jx4a65c_size_8abf5 rfl rfl rfl (by decide +kernel) ⟨Nat.le_of_ble_eq_true rfl, Nat.le_of_ble_eq_true rfl⟩) (xPV hK hOL rfl hOL) rfl rfl hl.1 rfl (lv_room (Nat.le_of_ble_eq_true rfl)) dX6_decidingLayer_9 ⟨Nat.le_of_ble_eq_true rfl, Nat.le_of_ble_eq_true rfl⟩) ?_
  refine lv_icmp_ge (tgt := 61) hx hb dX6_decidingLayer_12 (by decide) (fun c_1 => ?_) (fun c_1 => ?_)
  · have n_1 : nL ≤ i := (nI_leI (a := nL) (b := i) (by omega) (by omega)).mp c_1
    refine lv_iload_n hx hb dX6_decidingLayer_61 rfl (lv_at hl 2 rfl) ?_
    exact xr_iret hx hb hr hlocks (by rw [show nL = i by omega]) dX6_decidingLayer_62
  · have n_1 : i < nL := Nat.not_le.mp (fun q => c_1 ((nI_leI (a := nL) (b := i) (by omega) (by omega)).mpr q))
    refine lv_aload_n hx hb dX6_decidingLayer_15 rfl (lv_at hl 0 rfl) ?_
    refine lv_iload_n hx hb dX6_decidingLayer_16 rfl (lv_at hl 3 rfl) ?_
    refine lv_aload_n hx hb dX6_decidingLayer_17 rfl (lv_at hl 0 rfl) ?_
    refine x_get (v := .ref (nm 9 0)) hx hb hts h_X6 hown hK hT rfl 3 (by decide) (hts (.fieldLink RX6 25 "ConfigBeacon" "inquiry" "LConfigBeacon$Inquiry;") (by decide +kernel)) (fun _ h => h) rfl dX6_decidingLayer_18 ?_
    refine x_getN (v := .int (nI k9)) hx hb hts h_X3 hown hK hIq rfl 1 (by decide) (va_Nw.use rfl (hK.2.2.1 ("ConfigBeacon", 316, "ConfigBeacon$Inquiry", "client", "I") (by decide))) (fun _ h => h) rfl dX6_decidingLayer_21 ?_
    refine xr_call (va_runV (As := [.int (nI i), .int (nI k9)]) (rest := []) ⟨hx, hb, hml, hown, hts⟩ (c_X6_reaches l D cA lab nm rf f nC nL nV (⟨b1, b2, b3, iSel, iGd, iCur, iZero, iLk, iLkA, iLkB⟩) i k9 (by omega) (by omega)) (cwV 2 hts gX6_decidingLayer_X6_reaches rfl rfl rfl (by decide +kernel) ⟨Nat.le_of_ble_eq_true rfl, Nat.le_of_ble_eq_true rfl⟩) (xPV hK hT rfl hV) rfl rfl hl.1 rfl (lv_room (Nat.le_of_ble_eq_true rfl)) dX6_decidingLayer_24 ⟨Nat.le_of_ble_eq_true rfl, Nat.le_of_ble_eq_true rfl⟩) ?_
    refine xb_eq (tgt := 55) hx hb dX6_decidingLayer_27 (by decide) (fun c_2 => ?_) (fun c_2 => ?_)
    · have ed9 : (loI (decO f k9 b9 w i)) = (loI (decO f k9 b9 w (i + 1))) := by rw [decO_1]; simp [decS, loI, c_1, c_2]
      have hl : lv_has ls 4 [(0, .ref (nm 0 0)), (1, .int (nI b9)), (2, .int (loI (decO f k9 b9 w (i + 1)))), (3, .int (nI i))] := by rw [← ed9]; exact hl
      refine lv_iinc (v := (nI (i + 1))) (lv' := [(3, .int (nI (i + 1))), (0, .ref (nm 0 0)), (1, .int (nI b9)), (2, .int (loI (decO f k9 b9 w (i + 1))))]) hx hb dX6_decidingLayer_55 hl (k := 3) rfl (ni_inc i) (by decide) rfl (fun ls hl => ?_)
      refine lv_goto (tgt := 4) hx hb dX6_decidingLayer_58 (by decide) ?_
      exact ih (i + 1) _ ⟨(by omega), lv_sub hl [1, 2, 3, 0] rfl⟩ (by omega)
    · refine lv_aload_n hx hb dX6_decidingLayer_30 rfl (lv_at hl 0 rfl) ?_
      refine lv_iload_n hx hb dX6_decidingLayer_31 rfl (lv_at hl 3 rfl) ?_
      refine lv_iload_n hx hb dX6_decidingLayer_32 rfl (lv_at hl 1 rfl) ?_
      refine xr_callq (va_runV (As := [.int (nI i), .int (nI b9)]) (rest := []) ⟨hx, hb, hml, hown, hts⟩ (c_X6_shownEntry l D cA lab nm rf f nC nL nV ⟨b1, b2, b3, iSel, iGd, iCur, iZero, iLk, iLkA, iLkB⟩ ie9 k9 w lo uw kn oc fa hk9 A7 hl9 i b9 (by omega) (by omega)) (cwV 2 hts gX6_decidingLayer_X6_shownEntry rfl rfl rfl (by decide +kernel) ⟨Nat.le_of_ble_eq_true rfl, Nat.le_of_ble_eq_true rfl⟩) (xPV hK hT rfl ⟨hV, hQ0⟩) rfl rfl hl.1 rfl (lv_room (Nat.le_of_ble_eq_true rfl)) dX6_decidingLayer_33 ⟨Nat.le_of_ble_eq_true rfl, Nat.le_of_ble_eq_true rfl⟩) (fun ov_3 hov_3 => ?_)
      cases ov_3 with
      | none =>
        have hz : shwF f k9 (16 * i + b9) w = 0 := hov_3.1
        have hz2 : ¬ (0 < shwF f k9 (16 * i + b9) w) := by rw [hz]; decide
        refine lv_ifnullN (tgt := 55) hx hb dX6_decidingLayer_36 (by decide) ?_
        have ed9 : (loI (decO f k9 b9 w i)) = (loI (decO f k9 b9 w (i + 1))) := by rw [decO_1]; simp [decS, loI, c_1, c_2, hz2]
        have hl : lv_has ls 4 [(0, .ref (nm 0 0)), (1, .int (nI b9)), (2, .int (loI (decO f k9 b9 w (i + 1)))), (3, .int (nI i))] := by rw [← ed9]; exact hl
        refine lv_iinc (v := (nI (i + 1))) (lv' := [(3, .int (nI (i + 1))), (0, .ref (nm 0 0)), (1, .int (nI b9)), (2, .int (loI (decO f k9 b9 w (i + 1))))]) hx hb dX6_decidingLayer_55 hl (k := 3) rfl (ni_inc i) (by decide) rfl (fun ls hl => ?_)
        refine lv_goto (tgt := 4) hx hb dX6_decidingLayer_58 (by decide) ?_
        exact ih (i + 1) _ ⟨(by omega), lv_sub hl [1, 2, 3, 0] rfl⟩ (by omega)
      | some q9 =>
        have hz2 : 0 < shwF f k9 (16 * i + b9) w := (hov_3.1.gd.pos).mpr (fun q => by have := hov_3.1.n.mpr q; cases this)
        refine lv_ifnull hx hb dX6_decidingLayer_36 ?_
        refine lv_iload_n hx hb dX6_decidingLayer_39 rfl (lv_at hl 2 rfl) ?_
        refine lv_iconst (v := (-1)) hx hb dX6_decidingLayer_40 (by decide) ?_
        refine lv_icmp_eq (tgt := 53) hx hb dX6_decidingLayer_41 (by decide) (fun c_4 => ?_) (fun c_4 => ?_)
        · have e_c_4 : (decO f k9 b9 w i) = none := loI_none (fun j q => by have := (decO_lt q).1; omega) c_4
          refine lv_iload_n hx hb dX6_decidingLayer_53 rfl (lv_at hl 3 rfl) ?_
          refine lv_istore_n (lv' := [(2, .int (nI i)), (0, .ref (nm 0 0)), (1, .int (nI b9)), (3, .int (nI i))]) hx hb dX6_decidingLayer_54 rfl hl (by decide) rfl (fun ls hl => ?_)
          have ed9 : (nI i) = (loI (decO f k9 b9 w (i + 1))) := by rw [decO_1]; simp [decS, loI, c_1, c_2, hz2, e_c_4]
          have hl : lv_has ls 4 [(2, .int (loI (decO f k9 b9 w (i + 1)))), (0, .ref (nm 0 0)), (1, .int (nI b9)), (3, .int (nI i))] := by rw [← ed9]; exact hl
          refine lv_iinc (v := (nI (i + 1))) (lv' := [(3, .int (nI (i + 1))), (2, .int (loI (decO f k9 b9 w (i + 1)))), (0, .ref (nm 0 0)), (1, .int (nI b9))]) hx hb dX6_decidingLayer_55 hl (k := 3) rfl (ni_inc i) (by decide) rfl (fun ls hl => ?_)
          refine lv_goto (tgt := 4) hx hb dX6_decidingLayer_58 (by decide) ?_
          exact ih (i + 1) _ ⟨(by omega), lv_sub hl [2, 3, 1, 0] rfl⟩ (by omega)
        · obtain ⟨j9, hj9⟩ := loI_some c_4
          have hj9l := (decO_lt hj9).1
          refine lv_aload_n hx hb dX6_decidingLayer_44 rfl (lv_at hl 0 rfl) ?_
          refine lv_iload_n hx hb dX6_decidingLayer_45 rfl (lv_at hl 3 rfl) ?_
          refine lv_iload_n hx hb dX6_decidingLayer_46 rfl (lv_at hl 2 rfl) ?_
          refine xe_top (show (loI (decO f k9 b9 w i)) = nI j9 from by rw [hj9]; rfl) ?_
          refine xr_call (va_runV (As := [.int (nI i), .int (nI j9)]) (rest := []) ⟨hx, hb, hml, hown, hts⟩ (c_X6_goesAhead l D cA lab nm rf f nC nL nV (⟨b1, b2, b3, iSel, iGd, iCur, iZero, iLk, iLkA, iLkB⟩) i j9 (by omega) (by omega)) (cwV 2 hts gX6_decidingLayer_X6_goesAhead rfl rfl rfl (by decide +kernel) ⟨Nat.le_of_ble_eq_true rfl, Nat.le_of_ble_eq_true rfl⟩) (xPV hK hT rfl hV) rfl rfl hl.1 rfl (lv_room (Nat.le_of_ble_eq_true rfl)) dX6_decidingLayer_47 ⟨Nat.le_of_ble_eq_true rfl, Nat.le_of_ble_eq_true rfl⟩) ?_
          refine xb_eq (tgt := 55) hx hb dX6_decidingLayer_50 (by decide) (fun c_5 => ?_) (fun c_5 => ?_)
          · have ed9 : (loI (decO f k9 b9 w i)) = (loI (decO f k9 b9 w (i + 1))) := by rw [decO_1]; simp [decS, loI, c_1, c_2, hz2, hj9, c_5]
            have hl : lv_has ls 4 [(0, .ref (nm 0 0)), (1, .int (nI b9)), (2, .int (loI (decO f k9 b9 w (i + 1)))), (3, .int (nI i))] := by rw [← ed9]; exact hl
            refine lv_iinc (v := (nI (i + 1))) (lv' := [(3, .int (nI (i + 1))), (0, .ref (nm 0 0)), (1, .int (nI b9)), (2, .int (loI (decO f k9 b9 w (i + 1))))]) hx hb dX6_decidingLayer_55 hl (k := 3) rfl (ni_inc i) (by decide) rfl (fun ls hl => ?_)
            refine lv_goto (tgt := 4) hx hb dX6_decidingLayer_58 (by decide) ?_
            exact ih (i + 1) _ ⟨(by omega), lv_sub hl [1, 2, 3, 0] rfl⟩ (by omega)
          · refine lv_iload_n hx hb dX6_decidingLayer_53 rfl (lv_at hl 3 rfl) ?_
            refine lv_istore_n (lv' := [(2, .int (nI i)), (0, .ref (nm 0 0)), (1, .int (nI b9)), (3, .int (nI i))]) hx hb dX6_decidingLayer_54 rfl hl (by decide) rfl (fun ls hl => ?_)
            have ed9 : (nI i) = (loI (decO f k9 b9 w (i + 1))) := by rw [decO_1]; simp [decS, loI, c_1, c_2, hz2, hj9, c_5]
            have hl : lv_has ls 4 [(2, .int (loI (decO f k9 b9 w (i + 1)))), (0, .ref (nm 0 0)), (1, .int (nI b9)), (3, .int (nI i))] := by rw [← ed9]; exact hl
            refine lv_iinc (v := (nI (i + 1))) (lv' := [(3, .int (nI (i + 1))), (2, .int (loI (decO f k9 b9 w (i + 1)))), (0, .ref (nm 0 0)), (1, .int (nI b9))]) hx hb dX6_decidingLayer_55 hl (k := 3) rfl (ni_inc i) (by decide) rfl (fun ls hl => ?_)
            refine lv_goto (tgt := 4) hx hb dX6_decidingLayer_58 (by decide) ?_
            exact ih (i + 1) _ ⟨(by omega), lv_sub hl [2, 3, 1, 0] rfl⟩ (by omega)
