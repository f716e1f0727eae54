set_option maxHeartbeats 4000000 in
set_option maxRecDepth 100000 in
theorem c_X6_turnInto (l : Launch) (D : va_G) (cA : Nat → ClassId) (lab : Nat → Nat) (nm : Nat → Nat → Nat) (rf : Nat → Nat → Option Nat) (f : Nat → Nat → Int32) (nC nL nV : Nat) (hi : CRi f nC nL nV) (A : Nat → Prop) (hl9 : CRl A lab nm rf nC nL) (H9 : Heap) (hAn : ∀ q, H9.size ≤ q → A q) (w9 : Nat) (x9 : Nat → Int32) : Met l yX6_turnInto wsX6_turnInto (rmK 6 1 1000) (xPX D cA (fun U => zK A (nm 12 0) U) [.ref (nm 0 0), .ref w9] (fun H => H = H9 ∧ CRv D cA lab nm rf f nC nL nV H ∧ IQ0 D cA nm H ∧ ENT D cA lab w9 x9 H)) (xW (fun r H => r = some (.int (nI (cntF (dfF f x9) (16 * nL)))) ∧ if cntF (dfF f x9) (16 * nL) = 0 then CS D cA A (nm 12 0) (nm 0 0) f nC nL nV H else CS D cA A (nm 12 0) (nm 0 0) (tuG f x9 nV (16 * nL)) nC nL (nV + 1) H) A) 1 1000 A := by
  refine Met.ofW (cc := cX6_turnInto) (maxL := 5) (ret := (some .int)) (by decide) rfl ?_
  intro p e s m args below meth c s₁ B hml hv
  obtain ⟨rfl, ⟨hK, hX⟩, hI⟩ := hv
  have hx := B.exec
  have hb := B.bytes
  have hr := B.returns
  have hts := atoms_spec (ws := wsX6_turnInto) B.pre
  have hown : s.vm.findClass RX6 = some m.cls := findClass_of_methodNamed B.named
  have hlocks := B.notSynchronized
  have hl := lv_entry ([.ref (nm 0 0), .ref w9]) (n := 5) (Nat.le_of_ble_eq_true rfl)
  rw [lg_entry_eq]
  generalize (lg_sl ([.ref (nm 0 0), .ref w9]) ++ List.replicate (5 - (lg_sl ([.ref (nm 0 0), .ref w9])).length) Slot.unset).toArray = ls at hl ⊢
  have hl : lv_has ls 5 [(0, .ref (nm 0 0)), (1, .ref w9)] := hl
  have h_X1 : ∀ w ∈ wsX10, w ∈ wsX6_turnInto := fun _ h => List.mem_cons_of_mem _ (List.mem_append_left _ (List.mem_append_right _ h))
  have h_X2 : ∀ w ∈ wsX20, w ∈ wsX6_turnInto := fun _ h => List.mem_cons_of_mem _ (List.mem_append_right _ h)
  have h_X4 : ∀ w ∈ wsX40, w ∈ wsX6_turnInto := fun _ h => List.mem_cons_of_mem _ (List.mem_append_left _ (List.mem_append_left _ (List.mem_append_left _ (List.mem_append_right _ h))))
  have h_X6 : ∀ w ∈ wsX60, w ∈ wsX6_turnInto := fun _ h => List.mem_cons_of_mem _ (List.mem_append_left _ (List.mem_append_left _ (List.mem_append_left _ (List.mem_append_left _ (List.mem_append_right _ h)))))
  have h_Jx4a65c : ∀ w ∈ wsJx4a65c0, w ∈ wsX6_turnInto := fun _ h => List.mem_cons_of_mem _ (List.mem_append_left _ (List.mem_append_left _ (List.mem_append_right _ h)))
  obtain ⟨hH9, hV, hIQ, hWE⟩ := hI
  subst hH9
  have hS : va_S A s.heap s.heap [] := va_S.rf
  have hi0 := hi
  obtain ⟨b1, b2, b3, iSel, iGd, iCur, iZero, iLk, iLkA, iLkB⟩ := hi
  have hI9 := hV
  obtain ⟨hT, ⟨mcC, dC, capC, fC, hOC, hQC, hnC, hcC, hfC, hdC, hzC⟩, ⟨mcL, dL, capL, fL, hOL, hQL, hnL, hcL, hfL, hdL, hzL⟩, ⟨mcV, dV, capV, fV, hOV, hQV, hnV, hcV, hfV, hdV, hzV⟩, hC, hL, hHo, hRo, hCh, hRl, hEn⟩ := hI9
  refine lv_iconst (v := 0) hx hb dX6_turnInto_0 (by decide) ?_
  refine lv_istore_n (lv' := [(2, .int 0), (0, .ref (nm 0 0)), (1, .ref w9)]) hx hb dX6_turnInto_1 rfl hl (by decide) rfl (fun ls hl => ?_)
  refine lv_iconst (v := 0) hx hb dX6_turnInto_2 (by decide) ?_
  refine lv_istore_n (lv' := [(3, .int 0), (2, .int 0), (0, .ref (nm 0 0)), (1, .ref w9)]) hx hb dX6_turnInto_3 rfl hl (by decide) rfl (fun ls hl => ?_)
  refine w_loop (fun (i : Nat) H locs ls => i ≤ nL ∧ CRv D cA lab nm rf (tuF f x9 nV (16 * i)) nC nL nV H ∧ IQ0 D cA nm H ∧ ENT D cA lab w9 x9 H ∧ va_S A s.heap H locs ∧ lv_has ls 5 [(0, .ref (nm 0 0)), (1, .ref w9), (2, .int (nI (cntF (dfF f x9) (16 * i)))), (3, .int (nI i))]) (fun i => nL - i) ?_ 0 ⟨Nat.zero_le _, by rw [Nat.mul_zero, tu_0]; exact hV, hIQ, hWE, hS, lv_sub hl [2, 3, 1, 0] rfl⟩
  intro i H locs ls h9 ih
  obtain ⟨hi9, hV, hIQ, hWE, hS, hl⟩ := h9
  have hI9 := hV
  obtain ⟨hT, ⟨mcC, dC, capC, fC, hOC, hQC, hnC, hcC, hfC, hdC, hzC⟩, ⟨mcL, dL, capL, fL, hOL, hQL, hnL, hcL, hfL, hdL, hzL⟩, ⟨mcV, dV, capV, fV, hOV, hQV, hnV, hcV, hfV, hdV, hzV⟩, hC, hL, hHo, hRo, hCh, hRl, hEn⟩ := hI9
  refine lv_iload_n hx hb dX6_turnInto_4 rfl (lv_at hl 3 rfl) ?_
  refine lv_aload_n hx hb dX6_turnInto_5 rfl (lv_at hl 0 rfl) ?_
  refine x_get (v := .ref (nm 1 1)) hx hb hts h_X6 hown hK hT rfl 1 (by decide) (hts (.fieldLink RX6 16 "ConfigBeacon" "allLayers" "Ljava/util/ArrayList;") (by decide +kernel)) (fun _ h => h) rfl dX6_turnInto_6 ?_
  refine xr_call (va_runV (As := []) (rest := [.int (nI i)]) ⟨hx, hb, hml, hown, hts⟩ (c_Jx4a65c_size_8abf5 l D cA (nm 1 1) mcL dL nL) (cwV 0 hts gX6_turnInto_Jx4a65c_size_8abf5 rfl rfl rfl (by decide +kernel) ⟨Nat.le_of_ble_eq_true rfl, Nat.le_of_ble_eq_true rfl⟩) (xPV hK hOL rfl hOL) rfl rfl hl.1 rfl (lv_room (Nat.le_of_ble_eq_true rfl)) dX6_turnInto_9 ⟨Nat.le_of_ble_eq_true rfl, Nat.le_of_ble_eq_true rfl⟩) ?_
  refine lv_icmp_ge (tgt := 75) hx hb dX6_turnInto_12 (by decide) (fun c_1 => ?_) (fun c_1 => ?_)
  · have n_1 : nL ≤ i := (nI_leI (a := nL) (b := i) (by omega) (by omega)).mp c_1
    have en9 : i = nL := by omega
    rw [en9] at hV hl
    have hcl : cntF (dfF f x9) (16 * nL) < 65536 := by have := cntF_le (dfF f x9) (16 * nL); omega
    refine lv_iload_n hx hb dX6_turnInto_75 rfl (lv_at hl 2 rfl) ?_
    refine lv_if_le (tgt := 93) hx hb dX6_turnInto_76 (by decide) (fun c_2 => ?_) (fun c_2 => ?_)
    · refine lv_iload_n hx hb dX6_turnInto_93 rfl (lv_at hl 2 rfl) ?_
      have hc0 := nI_le0 hcl c_2
      rw [tu_all hc0] at hV
      exact xw_iret hx hb hr hlocks hS ⟨rfl, by rw [if_pos hc0]; exact ⟨lab, nm, rf, hV, hl9, hIQ, rfl, rfl⟩⟩ (Nat.zero_le _) (Nat.zero_le _) dX6_turnInto_94
    · refine lv_aload_n hx hb dX6_turnInto_79 rfl (lv_at hl 0 rfl) ?_
      refine x_get (v := .ref (nm 1 2)) hx hb hts h_X6 hown hK hT rfl 2 (by decide) (hts (.fieldLink RX6 19 "ConfigBeacon" "versions" "Ljava/util/ArrayList;") (by decide +kernel)) (fun _ h => h) rfl dX6_turnInto_80 ?_
      refine lv_aload_n hx hb dX6_turnInto_83 rfl (lv_at hl 1 rfl) ?_
      have hAl : A (nm 1 2) := hl9.1 _ (by rw [hl9.2.2.2.2.1]; omega)
      have hdl : dV < H.size := q_lt (hQV (by omega))
      have hd7 : lab dV = 7 := hdV (by omega)
      have hne9 : ¬ nm 1 2 = dV := fun e => by rw [← e, hl9.2.2.2.2.1] at hd7; omega
      have hWE0 := hWE
      obtain ⟨wa9, gw9, hWo, hWq, hWr, hW10, -⟩ := hWE0
      have hwa : ¬ w9 = nm 1 2 := fun e => by rw [e, hl9.2.2.2.2.1] at hW10; omega
      have hwd : ¬ w9 = dV := fun e => by rw [e, hd7] at hW10; omega
      have hEl : ∀ j, j < nV + 1 → ∀ y, fV j = some y → ¬ y = nm 1 2 ∧ ∃ fs, xO D y 2 fs H := fun j hj y hy => by
        rw [hfV j hj] at hy
        cases hy
        obtain ⟨e9, g9, u1, u2, u3, u4, -⟩ := hEn j (by omega)
        exact ⟨fun e => by rw [e, hl9.2.2.2.2.1] at u4; omega, _, u1⟩
      have hsz := hS.1
      have hBA : ∀ q, (q = nm 1 2 ∨ (0 < nV + 1 ∧ q = dV) ∨ H.size ≤ q) → A q := fun q h => by
        rcases h with h | h | h
        · rw [h]; exact hAl
        · rw [h.2]; exact hl9.1 _ (by rw [hd7]; omega)
        · exact hAn _ (Nat.le_trans hsz h)
      refine xw_calls (va_runV (As := [.ref w9]) (rest := []) ⟨hx, hb, hml, hown, hts⟩ (c_Jx4a65c_add_9ea2d l D cA (nm 1 2) dV (nV + 1) capV (nm 12 0) mcV fV (by omega) hcV hnV hne9 hzV 2 (RX1, TX1, 1) rfl (by decide) H w9 _ hwa (fun _ => hwd)) (cwV 1 hts gX6_turnInto_Jx4a65c_add_9ea2d rfl rfl rfl (by decide +kernel) ⟨Nat.le_of_ble_eq_true rfl, Nat.le_of_ble_eq_true rfl⟩) (xPXV hK zK.blind (fun U hU hW => hX.at hS hBA hU hW) hOV rfl ⟨rfl, hOV, hQV, hWo, hEl⟩) rfl rfl hl.1 rfl (lv_room (Nat.le_of_ble_eq_true rfl)) dX6_turnInto_84 ⟨Nat.le_of_ble_eq_true rfl, Nat.le_of_ble_eq_true rfl⟩) hS (fun q _ h => hBA q h) (fun q h => hBA q h) (fun H9 locs hP z9 q9 hS => ?_)
      obtain ⟨dq, cap2, f2, hd9, hO9, hQ9, r1, r2, r3, r4⟩ := hP
      have hk9 : ∀ q : Nat, q < H.size → q ≠ nm 1 2 → lab q ≠ 7 → H9[q]? = H[q]? := fun q h1 h2 h3 => q9 q h1 (fun h => h.elim h2 (fun h => h.elim (fun h => h3 (by rw [h.2]; exact hd7)) (fun h => by omega)))
      have hTl := x_lt hT
      have hT9 := va_at.kept hT (hk9 _ hTl (fun e => by have h1 := hl9.2.1; rw [show nm 0 0 = nm 1 2 from e, hl9.2.2.2.2.1] at h1; omega) (by rw [show lab (nm 0 0) = 1 from hl9.2.1]; omega))
      refine lv_pop hx hb dX6_turnInto_87 rfl ?_
      refine lv_aload_n hx hb dX6_turnInto_88 rfl (lv_at hl 0 rfl) ?_
      refine lv_aload_n hx hb dX6_turnInto_89 rfl (lv_at hl 1 rfl) ?_
      have hA0 : A (nm 0 0) := hl9.1 _ (by rw [hl9.2.1]; omega)
      refine x_put hx hb hts h_X6 tyX6 tyX6_ok nmX6 hown hK hT9 hS hA0 rfl 4 (by decide) (hts (.fieldLink RX6 32 "ConfigBeacon" "current" "LConfigBeacon$Entries;") (by decide +kernel)) (fun _ h => h) rfl (tyX6_ok 4 (by decide)) rfl rfl (Nat.le_of_ble_eq_true rfl) dX6_turnInto_90 (fun H8 locs hT8 z8 q8 hS => ?_)
      have hdn : dq ≠ nm 0 0 := fun e => hd9.elim (fun h => by have h1 := hl9.2.1; rw [← e, h.2, hd7] at h1; omega) (fun h => by omega)
      have hO8 := va_at.kept hO9 (q8 _ (fun e => by have h1 := hl9.2.1; rw [← show nm 1 2 = nm 0 0 from e, hl9.2.2.2.2.1] at h1; omega))
      have hQ8 := x_kept hQ9 (q8 _ hdn)
      refine lv_iload_n hx hb dX6_turnInto_93 rfl (lv_at hl 2 rfl) ?_
      have hc0 : ¬ cntF (dfF f x9) (16 * nL) = 0 := fun q => c_2 (by rw [q]; decide)
      exact xw_iret hx hb hr hlocks hS ⟨rfl, by rw [if_neg hc0]; exact vr_CS hV hl9 hIQ b2 b1 (fun q h1 h2 h3 h4 => (q8 q h3).trans (hk9 q h1 h2 h4)) hT8 hO8 hQ8 r1 r2 (fun j hj => (r3 j hj).trans (hfV j hj)) r4 (hd9.elim (fun h => Or.inl (by rw [h.2]; exact hd7)) (fun h => Or.inr h)) (hd9.elim (fun h => hl9.1 _ (by rw [h.2, hd7]; omega)) (fun h => hAn _ (Nat.le_trans hsz h))) hWE⟩ (Nat.le_refl _) (Nat.le_refl _) dX6_turnInto_94
  · have n_1 : i < nL := Nat.not_le.mp (fun q => c_1 ((nI_leI (a := nL) (b := i) (by omega) (by omega)).mpr q))
    refine lv_iconst (v := 0) hx hb dX6_turnInto_15 (by decide) ?_
    refine lv_istore (lv' := [(4, .int 0), (0, .ref (nm 0 0)), (1, .ref w9), (2, .int (nI (cntF (dfF f x9) (16 * i)))), (3, .int (nI i))]) hx hb dX6_turnInto_16 hl (by decide) rfl (fun ls hl => ?_)
    refine w_loop (fun (j : Nat) H locs ls => j ≤ 16 ∧ CRv D cA lab nm rf (tuF f x9 nV (16 * i + j)) nC nL nV H ∧ IQ0 D cA nm H ∧ ENT D cA lab w9 x9 H ∧ va_S A s.heap H locs ∧ lv_has ls 5 [(0, .ref (nm 0 0)), (1, .ref w9), (2, .int (nI (cntF (dfF f x9) (16 * i + j)))), (3, .int (nI i)), (4, .int (nI j))]) (fun j => 16 - j) ?_ 0 ⟨Nat.zero_le _, hV, hIQ, hWE, hS, lv_sub hl [1, 2, 3, 4, 0] rfl⟩
    intro j H locs ls h9 ih2
    obtain ⟨hj9, hV, hIQ, hWE, hS, hl⟩ := h9
    have hI9 := hV
    obtain ⟨hT, ⟨mcC, dC, capC, fC, hOC, hQC, hnC, hcC, hfC, hdC, hzC⟩, ⟨mcL, dL, capL, fL, hOL, hQL, hnL, hcL, hfL, hdL, hzL⟩, ⟨mcV, dV, capV, fV, hOV, hQV, hnV, hcV, hfV, hdV, hzV⟩, hC, hL, hHo, hRo, hCh, hRl, hEn⟩ := hI9
    refine lv_iload hx hb dX6_turnInto_18 (lv_at hl 4 rfl) ?_
    refine lv_bipush (v := 16) hx hb dX6_turnInto_20 (by decide) ?_
    refine lv_icmp_ge (tgt := 69) hx hb dX6_turnInto_22 (by decide) (fun c_3 => ?_) (fun c_3 => ?_)
    · have n_3 : 16 ≤ j := (nI_leI (a := 16) (b := j) (by omega) (by omega)).mp c_3
      refine lv_iinc (v := (nI (i + 1))) (lv' := [(3, .int (nI (i + 1))), (0, .ref (nm 0 0)), (1, .ref w9), (2, .int (nI (cntF (dfF f x9) (16 * i + j)))), (4, .int (nI j))]) hx hb dX6_turnInto_69 hl (k := 3) rfl (ni_inc i) (by decide) rfl (fun ls hl => ?_)
      refine lv_goto (tgt := 4) hx hb dX6_turnInto_72 (by decide) ?_
      have e16 : 16 * i + j = 16 * (i + 1) := by omega
      rw [e16] at hV hl
      exact ih (i + 1) _ _ _ ⟨by omega, hV, hIQ, hWE, hS, lv_sub hl [1, 2, 3, 0] rfl⟩ (by omega)
    · have n_3 : j < 16 := Nat.not_le.mp (fun q => c_3 ((nI_leI (a := 16) (b := j) (by omega) (by omega)).mpr q))
      refine lv_aload_n hx hb dX6_turnInto_25 rfl (lv_at hl 0 rfl) ?_
      refine lv_aload_n hx hb dX6_turnInto_26 rfl (lv_at hl 1 rfl) ?_
      refine lv_iload_n hx hb dX6_turnInto_27 rfl (lv_at hl 3 rfl) ?_
      refine lv_iload hx hb dX6_turnInto_28 (lv_at hl 4 rfl) ?_
      refine xr_call (va_runV (As := [.ref w9, .int (nI i), .int (nI j)]) (rest := []) ⟨hx, hb, hml, hown, hts⟩ (c_X6_isChangedBy l D cA lab nm rf (tuF f x9 nV (16 * i + j)) nC nL nV (hi0.tu x9 (show 16 * i + j ≤ 16 * nL by omega)) w9 x9 i j (by omega) (by omega)) (cwV 3 hts gX6_turnInto_X6_isChangedBy rfl rfl rfl (by decide +kernel) ⟨Nat.le_of_ble_eq_true rfl, Nat.le_of_ble_eq_true rfl⟩) (xPV hK hT rfl ⟨hV, hWE⟩) rfl rfl hl.1 rfl (lv_room (Nat.le_of_ble_eq_true rfl)) dX6_turnInto_30 ⟨Nat.le_of_ble_eq_true rfl, Nat.le_of_ble_eq_true rfl⟩) ?_
      refine xb_eq (tgt := 63) hx hb dX6_turnInto_33 (by decide) (fun c_4 => ?_) (fun c_4 => ?_)
      · have Lc_4 : dfF f x9 (16 * i + j) = false := by have h9 := c_4; rw [tu_ne (by decide)] at h9; exact h9
        have ec9 : ((nI (cntF (dfF f x9) (16 * i + j))) : Int32) = (nI (cntF (dfF f x9) (16 * i + (j + 1)))) := by rw [← Nat.add_assoc, cntF_f Lc_4]
        rw [ec9] at hl
        have hV : CRv D cA lab nm rf (tuF f x9 nV (16 * i + (j + 1))) nC nL nV H := by rw [← Nat.add_assoc, ← tu_f Lc_4]; exact hV
        refine lv_iinc (v := (nI (j + 1))) (lv' := [(4, .int (nI (j + 1))), (0, .ref (nm 0 0)), (1, .ref w9), (2, .int (nI (cntF (dfF f x9) (16 * i + (j + 1))))), (3, .int (nI i))]) hx hb dX6_turnInto_63 hl (k := 4) rfl (ni_inc j) (by decide) rfl (fun ls hl => ?_)
        refine lv_goto (tgt := 18) hx hb dX6_turnInto_66 (by decide) ?_
        exact ih2 (j + 1) _ _ _ ⟨by omega, hV, hIQ, hWE, hS, lv_sub hl [1, 2, 3, 4, 0] rfl⟩ (by omega)
      · have Lc_4 : dfF f x9 (16 * i + j) = true := by have h9 := c_4; rw [tu_ne (by decide)] at h9; exact h9
        refine lv_aload_n hx hb dX6_turnInto_36 rfl (lv_at hl 0 rfl) ?_
        refine x_get (v := .ref (nm 1 1)) hx hb hts h_X6 hown hK hT rfl 1 (by decide) (hts (.fieldLink RX6 16 "ConfigBeacon" "allLayers" "Ljava/util/ArrayList;") (by decide +kernel)) (fun _ h => h) rfl dX6_turnInto_37 ?_
        refine lv_iload_n hx hb dX6_turnInto_40 rfl (lv_at hl 3 rfl) ?_
        refine xr_call (va_runV (As := [.int (nI i)]) (rest := []) ⟨hx, hb, hml, hown, hts⟩ (c_Jx4a65c_get_915e3 l D cA (nm 1 1) mcL dL nL capL fL i (by omega) hnL hcL (some (nm 3 i)) (hfL i (by omega))) (cwV 1 hts gX6_turnInto_Jx4a65c_get_915e3 rfl rfl rfl (by decide +kernel) ⟨Nat.le_of_ble_eq_true rfl, Nat.le_of_ble_eq_true rfl⟩) (xPV hK hOL rfl ⟨hOL, hQL (by omega)⟩) rfl rfl hl.1 rfl (lv_room (Nat.le_of_ble_eq_true rfl)) dX6_turnInto_41 ⟨Nat.le_of_ble_eq_true rfl, Nat.le_of_ble_eq_true rfl⟩) ?_
        refine x_cast hx hb hown (hts (.classLink RX6 84 "ConfigBeacon$Layer") (by decide +kernel)) hK (hL i (by omega)) rfl dX6_turnInto_44 ?_
        refine x_getN (v := .ref (nm 6 i)) hx hb hts h_X4 hown hK (hL i (by omega)) rfl 6 (by decide) (va_Nw.use rfl (hK.2.2.1 ("ConfigBeacon", 190, "ConfigBeacon$Layer", "changes", "[I") (by decide))) (fun _ h => h) rfl dX6_turnInto_47 ?_
        refine lv_iload hx hb dX6_turnInto_50 (lv_at hl 4 rfl) ?_
        refine lv_aload_n hx hb dX6_turnInto_52 rfl (lv_at hl 0 rfl) ?_
        refine x_get (v := .ref (nm 1 2)) hx hb hts h_X6 hown hK hT rfl 2 (by decide) (hts (.fieldLink RX6 19 "ConfigBeacon" "versions" "Ljava/util/ArrayList;") (by decide +kernel)) (fun _ h => h) rfl dX6_turnInto_53 ?_
        refine xr_call (va_runV (As := []) (rest := [.int (nI j), .ref (nm 6 i)]) ⟨hx, hb, hml, hown, hts⟩ (c_Jx4a65c_size_8abf5 l D cA (nm 1 2) mcV dV (nV + 1)) (cwV 0 hts gX6_turnInto_Jx4a65c_size_8abf5 rfl rfl rfl (by decide +kernel) ⟨Nat.le_of_ble_eq_true rfl, Nat.le_of_ble_eq_true rfl⟩) (xPV hK hOV rfl hOV) rfl rfl hl.1 rfl (lv_room (Nat.le_of_ble_eq_true rfl)) dX6_turnInto_56 ⟨Nat.le_of_ble_eq_true rfl, Nat.le_of_ble_eq_true rfl⟩) ?_
        have hA6 : A (nm 6 i) := hl9.1 _ (by rw [(hl9.2.2.2.2.2.2.2.2.1 i (by omega)).2.2.2]; omega)
        refine x_iast hx hb hK (hCh i (by omega)) hS hA6 j rfl (by omega) (by decide) dX6_turnInto_59 (fun H locs hW1 z9 q9 hS => ?_)
        obtain ⟨hV2, hIQ⟩ := ch_CRv hV hl9 hIQ (show i < nL by omega) b2 b1 (show j < 16 by omega) (fun q _ h => q9 q h) hW1
        have hWE := hWE.kept (fun q h1 h2 => q9 q (fun e => by rw [e, (hl9.2.2.2.2.2.2.2.2.1 i (by omega)).2.2.2] at h2; omega))
        have hV : CRv D cA lab nm rf (tuF f x9 nV (16 * i + (j + 1))) nC nL nV H := by rw [← Nat.add_assoc, ← tu_t Lc_4]; exact hV2
        refine lv_iinc (v := (nI (cntF (dfF f x9) (16 * i + j) + 1))) (lv' := [(2, .int (nI (cntF (dfF f x9) (16 * i + j) + 1))), (0, .ref (nm 0 0)), (1, .ref w9), (3, .int (nI i)), (4, .int (nI j))]) hx hb dX6_turnInto_60 hl (k := 2) rfl (ni_inc (cntF (dfF f x9) (16 * i + j))) (by decide) rfl (fun ls hl => ?_)
        have ec9 : ((nI (cntF (dfF f x9) (16 * i + j) + 1)) : Int32) = (nI (cntF (dfF f x9) (16 * i + (j + 1)))) := by rw [← Nat.add_assoc, cntF_t Lc_4]
        rw [ec9] at hl
        refine lv_iinc (v := (nI (j + 1))) (lv' := [(4, .int (nI (j + 1))), (2, .int (nI (cntF (dfF f x9) (16 * i + (j + 1))))), (0, .ref (nm 0 0)), (1, .ref w9), (3, .int (nI i))]) hx hb dX6_turnInto_63 hl (k := 4) rfl (ni_inc j) (by decide) rfl (fun ls hl => ?_)
        refine lv_goto (tgt := 18) hx hb dX6_turnInto_66 (by decide) ?_
        exact ih2 (j + 1) _ _ _ ⟨by omega, hV, hIQ, hWE, hS, lv_sub hl [2, 3, 1, 4, 0] rfl⟩ (by omega)
