set_option maxHeartbeats 4000000 in
set_option maxRecDepth 100000 in
theorem c_X6_ask (l : Launch) (D : va_G) (cA : Nat → ClassId) (lab : Nat → Nat) (nm : Nat → Nat → Nat) (rf : Nat → Nat → Option Nat) (f : Nat → Nat → Int32) (nC nL nV : Nat) (hi : CRi f nC nL nV) (A : Nat → Prop) (hl9 : CRl A lab nm rf nC nL) (k9 b : Nat) (hk9 : k9 < nC) (hb9 : b < 16) : Met l yX6_ask wsX6_ask (rmK 40 0 0) (xP D cA [.ref (nm 0 0), .int (nI k9), .int (nI b)] (fun H => CRv D cA lab nm rf f nC nL nV H ∧ IQ0 D cA nm H)) (xW (xV none (woH (CRv D cA lab nm rf f nC nL nV) (IQS D cA lab nm f (nm 7 nV) k9 none) (cvE f k9 none nL b))) (A9 nm)) 0 0 (A9 nm) := by
  refine Met.ofW (cc := cX6_ask) (maxL := 3) (ret := none) (by decide) rfl ?_
  intro p e s m args below meth c s₁ B hml hv
  obtain ⟨rfl, hK, hI⟩ := hv
  have hx := B.exec
  have hb := B.bytes
  have hr := B.returns
  have hts := atoms_spec (ws := wsX6_ask) B.pre
  have hown : s.vm.findClass RX6 = some m.cls := findClass_of_methodNamed B.named
  have hlocks := B.notSynchronized
  have hl := lv_entry ([.ref (nm 0 0), .int (nI k9), .int (nI b)]) (n := 3) (Nat.le_of_ble_eq_true rfl)
  rw [lg_entry_eq]
  generalize (lg_sl ([.ref (nm 0 0), .int (nI k9), .int (nI b)]) ++ List.replicate (3 - (lg_sl ([.ref (nm 0 0), .int (nI k9), .int (nI b)])).length) Slot.unset).toArray = ls at hl ⊢
  have hl : lv_has ls 3 [(0, .ref (nm 0 0)), (1, .int (nI k9)), (2, .int (nI b))] := hl
  have h_X0 : ∀ w ∈ wsX00, w ∈ wsX6_ask := fun _ h => List.mem_cons_of_mem _ (List.mem_append_left _ (List.mem_append_left _ (List.mem_append_right _ h)))
  have h_X1 : ∀ w ∈ wsX10, w ∈ wsX6_ask := fun _ h => List.mem_cons_of_mem _ (List.mem_append_right _ h)
  have h_X2 : ∀ w ∈ wsX20, w ∈ wsX6_ask := fun _ h => List.mem_cons_of_mem _ (List.mem_append_left _ (List.mem_append_left _ (List.mem_append_left _ (List.mem_append_left _ (List.mem_append_left _ (List.mem_append_right _ h))))))
  have h_X3 : ∀ w ∈ wsX30, w ∈ wsX6_ask := fun _ h => List.mem_cons_of_mem _ (List.mem_append_left _ (List.mem_append_left _ (List.mem_append_left _ (List.mem_append_left _ (List.mem_append_left _ (List.mem_append_left _ (List.mem_append_right _ h)))))))
  have h_X4 : ∀ w ∈ wsX40, w ∈ wsX6_ask := fun _ h => List.mem_cons_of_mem _ (List.mem_append_left _ (List.mem_append_left _ (List.mem_append_left _ (List.mem_append_right _ h))))
  have h_X5 : ∀ w ∈ wsX50, w ∈ wsX6_ask := fun _ h => List.mem_cons_of_mem _ (List.mem_append_left _ (List.mem_append_right _ h))
  have h_X6 : ∀ w ∈ wsX60, w ∈ wsX6_ask := fun _ h => List.mem_cons_of_mem _ (List.mem_append_left _ (List.mem_append_left _ (List.mem_append_left _ (List.mem_append_left _ (List.mem_append_left _ (List.mem_append_left _ (List.mem_append_left _ (List.mem_append_right _ h))))))))
  have h_Jx4a65c : ∀ w ∈ wsJx4a65c0, w ∈ wsX6_ask := fun _ h => List.mem_cons_of_mem _ (List.mem_append_left _ (List.mem_append_left _ (List.mem_append_left _ (List.mem_append_left _ (List.mem_append_right _ h)))))
  have hS : va_S (A9 nm) s.heap s.heap [] := va_S.rf
  obtain ⟨hV, ic, en9, wr, lo, uw, kn, oc, fa, g, hIq, hW9⟩ := hI
  have hT := hV.1
  have hV0 := hV
  obtain ⟨-, ⟨mcC, dC, capC, fC, hOC, hQC, hnC, hcC, hfC, -⟩, ⟨mcL, dL, capL, fL, hOL, hQL, hnL, hcL, hfL, -⟩, ⟨mcV, dV, capV, fV, hOV, hQV, hnV, hcV, hfV, -⟩, hC, hL, hHo, hRo, hCh, hRl, hEn⟩ := hV0
  have hi0 := hi
  obtain ⟨b1, b2, b3, iSel, iGd, iCur, iZero, iLk, iLkA, iLkB⟩ := hi0
  have l8 := hl9.2.2.2.2.2.1
  have l9 := hl9.2.2.2.2.2.2.1
  have hne : ¬ nm 9 1 = nm 9 0 := fun e => by rw [e, l8] at l9; exact absurd l9 (by decide)
  refine lv_aload_n hx hb dX6_ask_0 rfl (lv_at hl 0 rfl) ?_
  refine x_get (v := .ref (nm 9 0)) hx hb hts h_X6 hown hK hT rfl 3 (by decide) (hts (.fieldLink RX6 25 "ConfigBeacon" "inquiry" "LConfigBeacon$Inquiry;") (by decide +kernel)) (fun _ h => h) rfl dX6_ask_1 ?_
  refine lv_iload_n hx hb dX6_ask_4 rfl (lv_at hl 1 rfl) ?_
  refine lv_aload_n hx hb dX6_ask_5 rfl (lv_at hl 0 rfl) ?_
  refine x_get (v := .ref (nm 7 nV)) hx hb hts h_X6 hown hK hT rfl 4 (by decide) (hts (.fieldLink RX6 32 "ConfigBeacon" "current" "LConfigBeacon$Entries;") (by decide +kernel)) (fun _ h => h) rfl dX6_ask_6 ?_
  refine lv_iconst (v := 1) hx hb dX6_ask_9 (by decide) ?_
  refine xw_calln (va_runV (As := [.int (nI k9), .ref (nm 7 nV), .int 1]) (rest := []) ⟨hx, hb, hml, hown, hts⟩ (c_X3_begin l D cA (nm 9 0) (nm 9 1) ic en9 wr lo uw kn oc fa (nI k9) (nm 7 nV) none) (cwV 3 hts gX6_ask_X3_begin rfl rfl rfl (by decide +kernel) ⟨Nat.le_of_ble_eq_true rfl, Nat.le_of_ble_eq_true rfl⟩) (xPV hK hIq rfl hIq) rfl rfl hl.1 rfl (lv_room (Nat.le_of_ble_eq_true rfl)) dX6_ask_10 ⟨Nat.le_of_ble_eq_true rfl, Nat.le_of_ble_eq_true rfl⟩) hS (fun _ _ h => Or.inl h) (fun _ h => Or.inl h) (fun H locs hIq z9 q9 hS => ?_)
  have hV := hV.keptI hl9 (fun q hz h8 h9 => q9 q hz (fun e => h8 (by rw [e]; exact l8)))
  have hT := hV.1
  have hW9 := x_kept hW9 (q9 _ (q_lt hW9) hne)
  have hEn9 : ENT D cA lab (nm 7 nV) (baF f none) H := (hV.2.2.2.2.2.2.2.2.2.2 nV (by omega)).cong (fun k hk => (iCur k hk).symm)
  refine lv_aload_n hx hb dX6_ask_13 rfl (lv_at hl 0 rfl) ?_
  refine lv_iload_n hx hb dX6_ask_14 rfl (lv_at hl 2 rfl) ?_
  refine xw_calls (va_runV (As := [.int (nI b)]) (rest := []) ⟨hx, hb, hml, hown, hts⟩ (c_workOut l D cA lab nm rf f nC nL nV (nm 7 nV) k9 none hi A hl9 hk9 (fun v h => by cases h) 17 b (0, 0, 0, fun _ => 0) g (by omega) (by rw [cnU_0]) (fun j hj h => by rw [tb_0 hj] at h; cases h) (fun j hj h => by rw [tb_0 hj] at h; cases h)) (cwV 1 hts gX6_ask_X6_workOut rfl rfl rfl (by decide +kernel) ⟨Nat.le_of_ble_eq_true rfl, Nat.le_of_ble_eq_true rfl⟩) (xPV hK hT rfl ⟨hV, ⟨hIq, hEn9⟩, hW9⟩) rfl rfl hl.1 rfl (lv_room (Nat.le_of_ble_eq_true rfl)) dX6_ask_15 ⟨Nat.le_of_ble_eq_true rfl, Nat.le_of_ble_eq_true rfl⟩) hS (fun _ _ h => h) (fun _ h => h) (fun H locs hJ z9 q9 hS => ?_)
  refine lv_pop hx hb dX6_ask_18 rfl ?_
  exact xw_vret hx hb hr hlocks hS ⟨rfl, hJ⟩ (Nat.le_refl _) (Nat.le_refl _) dX6_ask_19
set_option maxHeartbeats 4000000 in
set_option maxRecDepth 100000 in
theorem c_X6_askAt (l : Launch) (D : va_G) (cA : Nat → ClassId) (lab : Nat → Nat) (nm : Nat → Nat → Nat) (rf : Nat → Nat → Option Nat) (f : Nat → Nat → Int32) (nC nL nV : Nat) (hi : CRi f nC nL nV) (A : Nat → Prop) (hl9 : CRl A lab nm rf nC nL) (k9 b : Nat) (hk9 : k9 < nC) (hb9 : b < 16) (v9 : Nat) (hv9 : v9 ≤ nV) : Met l yX6_askAt wsX6_askAt (rmK 40 0 0) (xP D cA [.ref (nm 0 0), .int (nI v9), .int (nI k9), .int (nI b)] (fun H => CRv D cA lab nm rf f nC nL nV H ∧ IQ0 D cA nm H)) (xW (xV none (woH (CRv D cA lab nm rf f nC nL nV) (IQS D cA lab nm f (nm 7 v9) k9 (some v9)) (cvE f k9 (some v9) nL b))) (A9 nm)) 0 0 (A9 nm) := by
  refine Met.ofW (cc := cX6_askAt) (maxL := 4) (ret := none) (by decide) rfl ?_
  intro p e s m args below meth c s₁ B hml hv
  obtain ⟨rfl, hK, hI⟩ := hv
  have hx := B.exec
  have hb := B.bytes
  have hr := B.returns
  have hts := atoms_spec (ws := wsX6_askAt) B.pre
  have hown : s.vm.findClass RX6 = some m.cls := findClass_of_methodNamed B.named
  have hlocks := B.notSynchronized
  have hl := lv_entry ([.ref (nm 0 0), .int (nI v9), .int (nI k9), .int (nI b)]) (n := 4) (Nat.le_of_ble_eq_true rfl)
  rw [lg_entry_eq]
  generalize (lg_sl ([.ref (nm 0 0), .int (nI v9), .int (nI k9), .int (nI b)]) ++ List.replicate (4 - (lg_sl ([.ref (nm 0 0), .int (nI v9), .int (nI k9), .int (nI b)])).length) Slot.unset).toArray = ls at hl ⊢
  have hl : lv_has ls 4 [(0, .ref (nm 0 0)), (1, .int (nI v9)), (2, .int (nI k9)), (3, .int (nI b))] := hl
  have h_X0 : ∀ w ∈ wsX00, w ∈ wsX6_askAt := fun _ h => List.mem_cons_of_mem _ (List.mem_append_left _ (List.mem_append_left _ (List.mem_append_right _ h)))
  have h_X1 : ∀ w ∈ wsX10, w ∈ wsX6_askAt := fun _ h => List.mem_cons_of_mem _ (List.mem_append_right _ h)
  have h_X2 : ∀ w ∈ wsX20, w ∈ wsX6_askAt := fun _ h => List.mem_cons_of_mem _ (List.mem_append_left _ (List.mem_append_left _ (List.mem_append_left _ (List.mem_append_left _ (List.mem_append_right _ h)))))
  have h_X3 : ∀ w ∈ wsX30, w ∈ wsX6_askAt := fun _ h => List.mem_cons_of_mem _ (List.mem_append_left _ (List.mem_append_left _ (List.mem_append_left _ (List.mem_append_left _ (List.mem_append_left _ (List.mem_append_right _ h))))))
  have h_X4 : ∀ w ∈ wsX40, w ∈ wsX6_askAt := fun _ h => List.mem_cons_of_mem _ (List.mem_append_left _ (List.mem_append_left _ (List.mem_append_left _ (List.mem_append_right _ h))))
  have h_X5 : ∀ w ∈ wsX50, w ∈ wsX6_askAt := fun _ h => List.mem_cons_of_mem _ (List.mem_append_left _ (List.mem_append_right _ h))
  have h_X6 : ∀ w ∈ wsX60, w ∈ wsX6_askAt := fun _ h => List.mem_cons_of_mem _ (List.mem_append_left _ (List.mem_append_left _ (List.mem_append_left _ (List.mem_append_left _ (List.mem_append_left _ (List.mem_append_left _ (List.mem_append_left _ (List.mem_append_right _ h))))))))
  have h_Jx4a65c : ∀ w ∈ wsJx4a65c0, w ∈ wsX6_askAt := fun _ h => List.mem_cons_of_mem _ (List.mem_append_left _ (List.mem_append_left _ (List.mem_append_left _ (List.mem_append_left _ (List.mem_append_left _ (List.mem_append_left _ (List.mem_append_right _ h)))))))
  have hS : va_S (A9 nm) s.heap s.heap [] := va_S.rf
  obtain ⟨hV, ic, en9, wr, lo, uw, kn, oc, fa, g, hIq, hW9⟩ := hI
  have hT := hV.1
  have hV0 := hV
  obtain ⟨-, ⟨mcC, dC, capC, fC, hOC, hQC, hnC, hcC, hfC, -⟩, ⟨mcL, dL, capL, fL, hOL, hQL, hnL, hcL, hfL, -⟩, ⟨mcV, dV, capV, fV, hOV, hQV, hnV, hcV, hfV, -⟩, hC, hL, hHo, hRo, hCh, hRl, hEn⟩ := hV0
  have hi0 := hi
  obtain ⟨b1, b2, b3, iSel, iGd, iCur, iZero, iLk, iLkA, iLkB⟩ := hi0
  have l8 := hl9.2.2.2.2.2.1
  have l9 := hl9.2.2.2.2.2.2.1
  have hne : ¬ nm 9 1 = nm 9 0 := fun e => by rw [e, l8] at l9; exact absurd l9 (by decide)
  refine lv_aload_n hx hb dX6_askAt_0 rfl (lv_at hl 0 rfl) ?_
  refine x_get (v := .ref (nm 9 0)) hx hb hts h_X6 hown hK hT rfl 3 (by decide) (hts (.fieldLink RX6 25 "ConfigBeacon" "inquiry" "LConfigBeacon$Inquiry;") (by decide +kernel)) (fun _ h => h) rfl dX6_askAt_1 ?_
  refine lv_iload_n hx hb dX6_askAt_4 rfl (lv_at hl 2 rfl) ?_
  refine lv_aload_n hx hb dX6_askAt_5 rfl (lv_at hl 0 rfl) ?_
  refine x_get (v := .ref (nm 1 2)) hx hb hts h_X6 hown hK hT rfl 2 (by decide) (hts (.fieldLink RX6 19 "ConfigBeacon" "versions" "Ljava/util/ArrayList;") (by decide +kernel)) (fun _ h => h) rfl dX6_askAt_6 ?_
  refine lv_iload_n hx hb dX6_askAt_9 rfl (lv_at hl 1 rfl) ?_
  refine xr_call (va_runV (As := [.int (nI v9)]) (rest := [.int (nI k9), .ref (nm 9 0)]) ⟨hx, hb, hml, hown, hts⟩ (c_Jx4a65c_get_915e3 l D cA (nm 1 2) mcV dV (nV + 1) capV fV v9 (by omega) hnV hcV (some (nm 7 v9)) (hfV v9 (by omega))) (cwV 1 hts gX6_askAt_Jx4a65c_get_915e3 rfl rfl rfl (by decide +kernel) ⟨Nat.le_of_ble_eq_true rfl, Nat.le_of_ble_eq_true rfl⟩) (xPV hK hOV rfl ⟨hOV, hQV (by omega)⟩) rfl rfl hl.1 rfl (lv_room (Nat.le_of_ble_eq_true rfl)) dX6_askAt_10 ⟨Nat.le_of_ble_eq_true rfl, Nat.le_of_ble_eq_true rfl⟩) ?_
  refine x_cast hx hb hown (hts (.classLink RX6 29 "ConfigBeacon$Entries") (by decide +kernel)) hK (hEn v9 (by omega)).choose_spec.choose_spec.1 rfl dX6_askAt_13 ?_
  refine lv_iconst (v := 0) hx hb dX6_askAt_16 (by decide) ?_
  refine xw_calln (va_runV (As := [.int (nI k9), .ref (nm 7 v9), .int 0]) (rest := []) ⟨hx, hb, hml, hown, hts⟩ (c_X3_begin l D cA (nm 9 0) (nm 9 1) ic en9 wr lo uw kn oc fa (nI k9) (nm 7 v9) (some v9)) (cwV 3 hts gX6_askAt_X3_begin rfl rfl rfl (by decide +kernel) ⟨Nat.le_of_ble_eq_true rfl, Nat.le_of_ble_eq_true rfl⟩) (xPV hK hIq rfl hIq) rfl rfl hl.1 rfl (lv_room (Nat.le_of_ble_eq_true rfl)) dX6_askAt_17 ⟨Nat.le_of_ble_eq_true rfl, Nat.le_of_ble_eq_true rfl⟩) hS (fun _ _ h => Or.inl h) (fun _ h => Or.inl h) (fun H locs hIq z9 q9 hS => ?_)
  have hV := hV.keptI hl9 (fun q hz h8 h9 => q9 q hz (fun e => h8 (by rw [e]; exact l8)))
  have hT := hV.1
  have hW9 := x_kept hW9 (q9 _ (q_lt hW9) hne)
  have hEn9 : ENT D cA lab (nm 7 v9) (baF f (some v9)) H := (hV.2.2.2.2.2.2.2.2.2.2 v9 (by omega)).cong (fun k hk => rfl)
  refine lv_aload_n hx hb dX6_askAt_20 rfl (lv_at hl 0 rfl) ?_
  refine lv_iload_n hx hb dX6_askAt_21 rfl (lv_at hl 3 rfl) ?_
  refine xw_calls (va_runV (As := [.int (nI b)]) (rest := []) ⟨hx, hb, hml, hown, hts⟩ (c_workOut l D cA lab nm rf f nC nL nV (nm 7 v9) k9 (some v9) hi A hl9 hk9 (fun v h => by cases h; omega) 17 b (0, 0, 0, fun _ => 0) g (by omega) (by rw [cnU_0]) (fun j hj h => by rw [tb_0 hj] at h; cases h) (fun j hj h => by rw [tb_0 hj] at h; cases h)) (cwV 1 hts gX6_askAt_X6_workOut rfl rfl rfl (by decide +kernel) ⟨Nat.le_of_ble_eq_true rfl, Nat.le_of_ble_eq_true rfl⟩) (xPV hK hT rfl ⟨hV, ⟨hIq, hEn9⟩, hW9⟩) rfl rfl hl.1 rfl (lv_room (Nat.le_of_ble_eq_true rfl)) dX6_askAt_22 ⟨Nat.le_of_ble_eq_true rfl, Nat.le_of_ble_eq_true rfl⟩) hS (fun _ _ h => h) (fun _ h => h) (fun H locs hJ z9 q9 hS => ?_)
  refine lv_pop hx hb dX6_askAt_25 rfl ?_
  exact xw_vret hx hb hr hlocks hS ⟨rfl, hJ⟩ (Nat.le_refl _) (Nat.le_refl _) dX6_askAt_26
