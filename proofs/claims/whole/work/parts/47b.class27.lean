set_option maxHeartbeats 4000000 in
set_option maxRecDepth 100000 in
theorem c_X6_layer (l : Launch) (hst : l.stackTraces = false) (D : va_G) (cA : Nat → ClassId) (lab : Nat → Nat) (nm : Nat → Nat → Nat) (rf : Nat → Nat → Option Nat) (f : Nat → Nat → Int32) (nC nL nV : Nat) (hi : CRi f nC nL nV) (A : Nat → Prop) (hl9 : CRl A lab nm rf nC nL) (H9 : Heap) (p1 : Int32) (p2 : Int32) (p3 : Int32) (hAn : ∀ q, H9.size ≤ q → A q) : vx_Met l yX6_layer wsX6_layer (rmK 41 9 1080) (xPX D cA (fun U => pK A (nm 12 0) U) [.ref (nm 0 0), .int p1, .int p2, .int p3] (fun H => H = H9 ∧ CRv D cA lab nm rf f nC nL nV H ∧ IQ0 D cA nm H)) (xW (pJ (kLy nL p1 p2 p3) (some (.int (nI nL))) (CS D cA A (nm 12 0) (nm 0 0) ((lyS (mS f) nL p1 p2 p3).2.1) nC (nL + 1) nV)) A) (xT (kLy nL p1 p2 p3) (fun k => (if k = 1 then eA else eS)) (CS D cA A (nm 12 0) (nm 0 0) f nC nL nV) A) 9 1080 A := by
  refine vx_ofW (cc := cX6_layer) (maxL := 5) (ret := (some .int)) (by decide) rfl ?_
  intro p e s m args below meth c s₁ B hml ht hv
  obtain ⟨rfl, ⟨hK, hX⟩, hI⟩ := hv
  have hx := B.exec
  have hb := B.bytes
  have hr := B.returns
  have hts := atoms_spec (ws := wsX6_layer) B.pre
  have hown : s.vm.findClass RX6 = some m.cls := findClass_of_methodNamed B.named
  have hlocks := B.notSynchronized
  have hl := lv_entry ([.ref (nm 0 0), .int p1, .int p2, .int p3]) (n := 5) (Nat.le_of_ble_eq_true rfl)
  rw [lg_entry_eq]
  generalize (lg_sl ([.ref (nm 0 0), .int p1, .int p2, .int p3]) ++ List.replicate (5 - (lg_sl ([.ref (nm 0 0), .int p1, .int p2, .int p3])).length) Slot.unset).toArray = ls at hl ⊢
  have hl : lv_has ls 5 [(0, .ref (nm 0 0)), (1, .int p1), (2, .int p2), (3, .int p3)] := hl
  have h_X4 : ∀ w ∈ wsX40, w ∈ wsX6_layer := fun _ h => List.mem_cons_of_mem _ (List.mem_append_left _ (List.mem_append_left _ (List.mem_append_left _ (List.mem_append_right _ h))))
  have h_X6 : ∀ w ∈ wsX60, w ∈ wsX6_layer := fun _ h => List.mem_cons_of_mem _ (List.mem_append_left _ (List.mem_append_left _ (List.mem_append_left _ (List.mem_append_left _ (List.mem_append_right _ h)))))
  have h_Jx4a65c : ∀ w ∈ wsJx4a65c0, w ∈ wsX6_layer := fun _ h => List.mem_cons_of_mem _ (List.mem_append_left _ (List.mem_append_left _ (List.mem_append_right _ h)))
  obtain ⟨hH9, hI, hIQ⟩ := hI
  subst hH9
  have hV := hI
  have hi0 := hi
  obtain ⟨hT, ⟨mcC, dC, capC, fC, hOC, hQC, hnC, hcC, hfC, hdC, hzC⟩, ⟨mcL, dL, capL, fL, hOL, hQL, hnL, hcL, hfL, hdL, hzL⟩, ⟨mcV, dV, capV, fV, hOV, hQV, hnV, hcV, hfV, hdV, hzV⟩, hC, hL, hHo, hRo, hCh, hRl, hEn⟩ := hI
  obtain ⟨b1, b2, b3, iSel, iGd, iCur, iZero, iLk, iLkA, iLkB⟩ := hi
  have hS : va_S A s.heap s.heap [] := va_S.rf
  have hCS0 : CS D cA A (nm 12 0) (nm 0 0) f nC nL nV s.heap := ⟨lab, nm, rf, hV, hl9, hIQ, rfl, rfl⟩
  refine lv_iload_n hx hb dX6_layer_0 rfl (lv_at hl 1 rfl) ?_
  refine xr_call (va_runS (As := [.int p1]) (rest := []) ⟨hx, hb, hml, hown, hts⟩ (c_X6_isPrecedence l D cA p1) (va_cwS 1 hts gX6_layer_X6_isPrecedence rfl rfl rfl (by decide +kernel) ⟨Nat.le_of_ble_eq_true rfl, Nat.le_of_ble_eq_true rfl⟩) (xPS hK trivial) rfl rfl hl.1 rfl (lv_room (Nat.le_of_ble_eq_true rfl)) dX6_layer_1 ⟨Nat.le_of_ble_eq_true rfl, Nat.le_of_ble_eq_true rfl⟩) ?_
  refine xb_eq (tgt := 19) hx hb dX6_layer_4 (by decide) (fun c_1 => ?_) (fun c_1 => ?_)
  · refine lv_iconst (v := 0) hx hb dX6_layer_19 (by decide) ?_
    refine xx_check (E0 := eA) (vx_runS (As := [.int 0]) (rest := []) ⟨hx, hb, hml, hown, hts⟩ (c_X6_checkArgument l hst D cA A false 0 (by decide)) (va_cwS 1 hts gX6_layer_X6_checkArgument rfl rfl rfl (by decide +kernel) ⟨Nat.le_of_ble_eq_true rfl, Nat.le_of_ble_eq_true rfl⟩) (xPXS hK tK.blind (fun U hU hW => hX.2.at hS (fun _ h => h) hU hW) trivial) rfl rfl hl.1 rfl (lv_room (Nat.le_of_ble_eq_true rfl)) dX6_layer_20 ⟨Nat.le_of_ble_eq_true rfl, Nat.le_of_ble_eq_true rfl⟩) hS (fun b_2 ce q9 H1 z1 k1 hS1 g1 g2 g3 => ?_) (fun b_2 => ?_)
    · have hk9 : kLy nL p1 p2 p3 = 1 := by unfold kLy; rw [c_1]; simp
      exact vx_out (fun x hx => (ht x hx).elim) hlocks g1 g2 g3 (fun t ht9 _ => ⟨by rw [hk9]; decide, by rw [hk9] <;> rfl, by rw [ht9]; exact hCS0.same (fun q h1 _ => k1 q h1), hS1.F ht9⟩) hS1.2.2 (Nat.le_of_ble_eq_true rfl) (Nat.le_of_ble_eq_true rfl)
    · exact absurd b_2 (by decide)
  · refine lv_iload_n hx hb dX6_layer_7 rfl (lv_at hl 2 rfl) ?_
    refine lv_iload_n hx hb dX6_layer_8 rfl (lv_at hl 3 rfl) ?_
    refine xr_call (va_runS (As := [.int p2, .int p3]) (rest := []) ⟨hx, hb, hml, hown, hts⟩ (c_X6_canSelect l D cA p2 p3) (va_cwS 2 hts gX6_layer_X6_canSelect rfl rfl rfl (by decide +kernel) ⟨Nat.le_of_ble_eq_true rfl, Nat.le_of_ble_eq_true rfl⟩) (xPS hK trivial) rfl rfl hl.1 rfl (lv_room (Nat.le_of_ble_eq_true rfl)) dX6_layer_9 ⟨Nat.le_of_ble_eq_true rfl, Nat.le_of_ble_eq_true rfl⟩) ?_
    refine xb_eq (tgt := 19) hx hb dX6_layer_12 (by decide) (fun c_3 => ?_) (fun c_3 => ?_)
    · refine lv_iconst (v := 0) hx hb dX6_layer_19 (by decide) ?_
      refine xx_check (E0 := eA) (vx_runS (As := [.int 0]) (rest := []) ⟨hx, hb, hml, hown, hts⟩ (c_X6_checkArgument l hst D cA A false 0 (by decide)) (va_cwS 1 hts gX6_layer_X6_checkArgument rfl rfl rfl (by decide +kernel) ⟨Nat.le_of_ble_eq_true rfl, Nat.le_of_ble_eq_true rfl⟩) (xPXS hK tK.blind (fun U hU hW => hX.2.at hS (fun _ h => h) hU hW) trivial) rfl rfl hl.1 rfl (lv_room (Nat.le_of_ble_eq_true rfl)) dX6_layer_20 ⟨Nat.le_of_ble_eq_true rfl, Nat.le_of_ble_eq_true rfl⟩) hS (fun b_4 ce q9 H1 z1 k1 hS1 g1 g2 g3 => ?_) (fun b_4 => ?_)
      · have hk9 : kLy nL p1 p2 p3 = 1 := by unfold kLy; rw [c_1, Bool.true_and, show (inB p2 0 3 && inB p3 0 (mostF p2)) = false from c_3]; simp
        exact vx_out (fun x hx => (ht x hx).elim) hlocks g1 g2 g3 (fun t ht9 _ => ⟨by rw [hk9]; decide, by rw [hk9] <;> rfl, by rw [ht9]; exact hCS0.same (fun q h1 _ => k1 q h1), hS1.F ht9⟩) hS1.2.2 (Nat.le_of_ble_eq_true rfl) (Nat.le_of_ble_eq_true rfl)
      · exact absurd b_4 (by decide)
    · refine lv_iconst (v := 1) hx hb dX6_layer_15 (by decide) ?_
      refine lv_goto (tgt := 20) hx hb dX6_layer_16 (by decide) ?_
      refine xx_check (E0 := eA) (vx_runS (As := [.int 1]) (rest := []) ⟨hx, hb, hml, hown, hts⟩ (c_X6_checkArgument l hst D cA A true 1 (by decide)) (va_cwS 1 hts gX6_layer_X6_checkArgument rfl rfl rfl (by decide +kernel) ⟨Nat.le_of_ble_eq_true rfl, Nat.le_of_ble_eq_true rfl⟩) (xPXS hK tK.blind (fun U hU hW => hX.2.at hS (fun _ h => h) hU hW) trivial) rfl rfl hl.1 rfl (lv_room (Nat.le_of_ble_eq_true rfl)) dX6_layer_20 ⟨Nat.le_of_ble_eq_true rfl, Nat.le_of_ble_eq_true rfl⟩) hS (fun b_5 ce q9 H1 z1 k1 hS1 g1 g2 g3 => ?_) (fun b_5 => ?_)
      · exact absurd b_5 (by decide)
      · have _b_5 := b_5
        refine lv_aload_n hx hb dX6_layer_23 rfl (lv_at hl 0 rfl) ?_
        refine x_get (v := .ref (nm 1 1)) hx hb hts h_X6 hown hK hT rfl 1 (by decide) (hts (.fieldLink RX6 16 "ConfigBeacon" "allLayers" "Ljava/util/ArrayList;") (by decide +kernel)) (fun _ h => h) rfl dX6_layer_24 ?_
        refine xr_call (va_runV (As := []) (rest := []) ⟨hx, hb, hml, hown, hts⟩ (c_Jx4a65c_size_8abf5 l D cA (nm 1 1) mcL dL nL) (cwV 0 hts gX6_layer_Jx4a65c_size_8abf5 rfl rfl rfl (by decide +kernel) ⟨Nat.le_of_ble_eq_true rfl, Nat.le_of_ble_eq_true rfl⟩) (xPV hK hOL rfl hOL) rfl rfl hl.1 rfl (lv_room (Nat.le_of_ble_eq_true rfl)) dX6_layer_27 ⟨Nat.le_of_ble_eq_true rfl, Nat.le_of_ble_eq_true rfl⟩) ?_
        refine lv_bipush (v := 8) hx hb dX6_layer_30 (by decide) ?_
        refine lv_icmp_ge (tgt := 39) hx hb dX6_layer_32 (by decide) (fun c_6 => ?_) (fun c_6 => ?_)
        · have n_6 : 8 ≤ nL := (nI_leI (a := 8) (b := nL) (by omega) (by omega)).mp c_6
          have k12 : nI nL = 8 := by rw [show nL = 8 from by omega]; rfl
          refine lv_iconst (v := 0) hx hb dX6_layer_39 (by decide) ?_
          refine xx_check (E0 := eS) (vx_runS (As := [.int 0]) (rest := []) ⟨hx, hb, hml, hown, hts⟩ (c_X6_checkState l hst D cA A false 0 (by decide)) (va_cwS 1 hts gX6_layer_X6_checkState rfl rfl rfl (by decide +kernel) ⟨Nat.le_of_ble_eq_true rfl, Nat.le_of_ble_eq_true rfl⟩) (xPXS hK tK.blind (fun U hU hW => hX.2.at hS (fun _ h => h) hU hW) trivial) rfl rfl hl.1 rfl (lv_room (Nat.le_of_ble_eq_true rfl)) dX6_layer_40 ⟨Nat.le_of_ble_eq_true rfl, Nat.le_of_ble_eq_true rfl⟩) hS (fun b_7 ce q9 H1 z1 k1 hS1 g1 g2 g3 => ?_) (fun b_7 => ?_)
          · have hk9 : kLy nL p1 p2 p3 = 2 := by unfold kLy; rw [c_1, Bool.true_and, show (inB p2 0 3 && inB p3 0 (mostF p2)) = true from c_3]; simp [k12]
            exact vx_out (fun x hx => (ht x hx).elim) hlocks g1 g2 g3 (fun t ht9 _ => ⟨by rw [hk9]; decide, by rw [hk9] <;> rfl, by rw [ht9]; exact hCS0.same (fun q h1 _ => k1 q h1), hS1.F ht9⟩) hS1.2.2 (Nat.le_of_ble_eq_true rfl) (Nat.le_of_ble_eq_true rfl)
          · exact absurd b_7 (by decide)
        · have n_6 : nL < 8 := Nat.not_le.mp (fun q => c_6 ((nI_leI (a := 8) (b := nL) (by omega) (by omega)).mpr q))
          have k12 : ¬ nI nL = 8 := fun q => by have := nI_inj2 (a := nL) (b := 8) (by omega) (by omega) q; omega
          refine lv_iconst (v := 1) hx hb dX6_layer_35 (by decide) ?_
          refine lv_goto (tgt := 40) hx hb dX6_layer_36 (by decide) ?_
          refine xx_check (E0 := eS) (vx_runS (As := [.int 1]) (rest := []) ⟨hx, hb, hml, hown, hts⟩ (c_X6_checkState l hst D cA A true 1 (by decide)) (va_cwS 1 hts gX6_layer_X6_checkState rfl rfl rfl (by decide +kernel) ⟨Nat.le_of_ble_eq_true rfl, Nat.le_of_ble_eq_true rfl⟩) (xPXS hK tK.blind (fun U hU hW => hX.2.at hS (fun _ h => h) hU hW) trivial) rfl rfl hl.1 rfl (lv_room (Nat.le_of_ble_eq_true rfl)) dX6_layer_40 ⟨Nat.le_of_ble_eq_true rfl, Nat.le_of_ble_eq_true rfl⟩) hS (fun b_8 ce q9 H1 z1 k1 hS1 g1 g2 g3 => ?_) (fun b_8 => ?_)
          · exact absurd b_8 (by decide)
          · have _b_8 := b_8
            refine lv_aload_n hx hb dX6_layer_43 rfl (lv_at hl 0 rfl) ?_
            refine x_get (v := .ref (nm 1 1)) hx hb hts h_X6 hown hK hT rfl 1 (by decide) (hts (.fieldLink RX6 16 "ConfigBeacon" "allLayers" "Ljava/util/ArrayList;") (by decide +kernel)) (fun _ h => h) rfl dX6_layer_44 ?_
            refine xr_call (va_runV (As := []) (rest := []) ⟨hx, hb, hml, hown, hts⟩ (c_Jx4a65c_size_8abf5 l D cA (nm 1 1) mcL dL nL) (cwV 0 hts gX6_layer_Jx4a65c_size_8abf5 rfl rfl rfl (by decide +kernel) ⟨Nat.le_of_ble_eq_true rfl, Nat.le_of_ble_eq_true rfl⟩) (xPV hK hOL rfl hOL) rfl rfl hl.1 rfl (lv_room (Nat.le_of_ble_eq_true rfl)) dX6_layer_47 ⟨Nat.le_of_ble_eq_true rfl, Nat.le_of_ble_eq_true rfl⟩) ?_
            refine lv_istore (lv' := [(4, .int (nI nL)), (0, .ref (nm 0 0)), (1, .int p1), (2, .int p2), (3, .int p3)]) hx hb dX6_layer_50 hl (by decide) rfl (fun ls hl => ?_)
            refine lv_aload_n hx hb dX6_layer_52 rfl (lv_at hl 1 rfl) ?_
            refine x_get (v := .ref (nm 1 1)) hx hb hts h_X6 hown hK hT rfl 1 (by decide) (hts (.fieldLink RX6 16 "ConfigBeacon" "allLayers" "Ljava/util/ArrayList;") (by decide +kernel)) (fun _ h => h) rfl dX6_layer_53 ?_
            have hsz0 := hS.1
            have hold : ∀ x : Nat, x < s.heap.size → s.heap[x]? = s.heap[x]? := fun _ _ => rfl
            refine xn_o (ci := 5) hx hb hts h_X4 tyX4 tyX4_ok hown (hts (.classLink RX6 84 RX4) (by decide +kernel)) (hts (.instantiable RX4 7) (by decide +kernel)) (hts (.initialized RX4) (by decide +kernel)) hK hS rfl [.int 0, .int 0, .int 0, .int 0, .null, .null, .null] (fun j hj => by rcases (show j = 0 ∨ j = 1 ∨ j = 2 ∨ j = 3 ∨ j = 4 ∨ j = 5 ∨ j = 6 from by omega) with rfl | rfl | rfl | rfl | rfl | rfl | rfl <;> rfl) (Nat.le_of_ble_eq_true rfl) (Nat.le_of_ble_eq_true rfl) dX6_layer_56 (fun q1 H hq1 gq1 hN1 zN oN hS => ?_)
            have hAq1 : A q1 := hAn _ gq1
            have hold : ∀ x : Nat, x < s.heap.size → H[x]? = s.heap[x]? := fun x hx => (oN x (Nat.lt_of_lt_of_le hx hsz0)).trans (hold x hx)
            refine lv_dup hx hb dX6_layer_59 rfl ?_
            refine lv_iload hx hb dX6_layer_60 (lv_at hl 0 rfl) ?_
            refine lv_iload_n hx hb dX6_layer_62 rfl (lv_at hl 2 rfl) ?_
            refine lv_iload_n hx hb dX6_layer_63 rfl (lv_at hl 3 rfl) ?_
            refine lv_iload_n hx hb dX6_layer_64 rfl (lv_at hl 4 rfl) ?_
            have ltn := x_lt hN1
            have hsz0 := hS.1
            refine xw_calln (va_runI (As := [.int (nI nL), .int p1, .int p2, .int p3]) (rest := [.ref q1, .ref (nm 1 1)]) ⟨hx, hb, hml, hown, hts⟩ (c_X4_init l D cA q1 H (nI nL) p1 p2 p3) (cwI 4 hts gX6_layer_X4_init rfl rfl rfl (hts (.initialized RX4) (by decide +kernel)) (hts (.methodLink RX6 86 yX4_init) (by decide +kernel)) (hts (.instanceMethod yX4_init) (by decide +kernel)) rfl (by decide +kernel) ⟨Nat.le_of_ble_eq_true rfl, Nat.le_of_ble_eq_true rfl⟩) (xPS hK ⟨rfl, hN1⟩) rfl rfl hl.1 rfl (lv_room (Nat.le_of_ble_eq_true rfl)) dX6_layer_65 ⟨Nat.le_of_ble_eq_true rfl, Nat.le_of_ble_eq_true rfl⟩) hS (fun z _ h => h.elim (fun e => by rw [show z = q1 from e]; exact hAq1) (fun e => hAn _ (Nat.le_trans hsz0 e))) (fun z h => h.elim (fun e => by rw [show z = q1 from e]; exact hAq1) (fun e => hAn _ (Nat.le_trans hsz0 e))) (fun H locs hJ4 z9 q9 hS => ?_)
            have hold : ∀ x : Nat, x < s.heap.size → H[x]? = s.heap[x]? := fun x hx => (q9 x (Nat.lt_of_lt_of_le hx hsz0) (fun h => by rcases h with h | h <;> omega)).trans (hold x hx)
            obtain ⟨qa, qb, qc, ga, gab, gbc, gc, hN1, hNa, hNb, hNc⟩ := hJ4
            have ga2 : s.heap.size ≤ qa := Nat.le_trans hsz0 ga
            have lta : q1 < qa := Nat.lt_of_lt_of_le ltn ga
            have hAl : A (nm 1 1) := hl9.1 _ (by rw [hl9.2.2.2.1]; omega)
            have hal := x_lt hOL
            have hdl : 0 < nL → dL < s.heap.size := fun h => q_lt (hQL h)
            have hne9 : ¬ (nm 1 1) = dL := fun e => by
              rcases Nat.eq_zero_or_pos nL with h0 | h0
              · exact hX.1.not (by rw [← hzL h0, ← e]; exact hAl)
              · have h1 := hdL h0
                rw [← e, hl9.2.2.2.1] at h1
                omega
            have hOl := va_at.kept hOL (hold _ hal)
            have hQl : 0 < nL → xQ (cA 4) dL capL fL H := fun h => x_kept (hQL h) (hold _ (hdl h))
            have hEl : ∀ j, j < nL → ∀ y, fL j = some y → ¬ y = (nm 1 1) ∧ ∃ fs, xO D y 5 fs H := fun j hj y hy => by
              rw [hfL j hj] at hy
              cases hy
              refine ⟨fun e => ?_, _, va_at.kept (hL j (by omega)) (hold _ (x_lt (hL j (by omega))))⟩
              have h1 := (hl9.2.2.2.2.2.2.2.2.1 j (by omega)).1
              rw [e, hl9.2.2.2.1] at h1
              omega
            have hsz := hS.1
            have hBA : ∀ q, (q = (nm 1 1) ∨ (0 < nL ∧ q = dL) ∨ H.size ≤ q) → A q := fun q h => by
              rcases h with h | h | h
              · rw [h]; exact hAl
              · rw [h.2]; exact hl9.1 _ (by rw [hdL h.1]; omega)
              · exact hAn _ (Nat.le_trans hsz h)
            have hwlt := x_lt hN1
            refine xw_calls (va_runV (As := [.ref q1]) (rest := []) ⟨hx, hb, hml, hown, hts⟩ (c_Jx4a65c_add_9ea2d l D cA (nm 1 1) dL nL capL (nm 12 0) mcL fL (by omega) hcL hnL hne9 hzL 5 (RX4, TX4, 7) rfl (by decide) H q1 _ (by omega) (fun h => by have := hdl h; omega)) (cwV 1 hts gX6_layer_Jx4a65c_add_9ea2d rfl rfl rfl (by decide +kernel) ⟨Nat.le_of_ble_eq_true rfl, Nat.le_of_ble_eq_true rfl⟩) (xPXV hK zK.blind (fun U hU hW => hX.1.at hS hBA hU hW) hOl rfl ⟨rfl, hOl, hQl, hN1, hEl⟩) rfl rfl hl.1 rfl (lv_room (Nat.le_of_ble_eq_true rfl)) dX6_layer_68 ⟨Nat.le_of_ble_eq_true rfl, Nat.le_of_ble_eq_true rfl⟩) hS (fun q _ h => hBA q h) (fun q h => hBA q h) (fun H9 locs hP z9 q9 hS => ?_)
            obtain ⟨dq, cap2, f2, hd9, hO9, hQ9, r1, r2, r3, r4⟩ := hP
            have hfr : ∀ q : Nat, q < s.heap.size → q ≠ (nm 1 1) → lab q ≠ 6 → H9[q]? = s.heap[q]? := fun q h1 h2 h3 => (q9 q (Nat.lt_of_lt_of_le h1 hsz) (fun h => h.elim h2 (fun h => h.elim (fun h => h3 (by rw [h.2]; exact hdL h.1)) (fun h => by omega)))).trans (hold q h1)
            have hNk : ∀ x : Nat, s.heap.size ≤ x → x < H.size → H9[x]? = H[x]? := fun x h1 h2 => q9 x h2 (fun h => h.elim (fun e => by omega) (fun h => h.elim (fun h => by have := hdl h.1; omega) (fun h => by omega)))
            have hT := va_at.kept hT (hfr _ (x_lt hT) (fun e => by have h1 := hl9.2.1; rw [show nm 0 0 = (nm 1 1) from e, hl9.2.2.2.1] at h1; omega) (by rw [show lab (nm 0 0) = 1 from hl9.2.1]; omega))
            refine lv_pop hx hb dX6_layer_71 rfl ?_
            refine lv_iload hx hb dX6_layer_72 (lv_at hl 0 rfl) ?_
            refine vx_ret ?_
            exact xw_iret hx hb hr hlocks hS ⟨(by unfold kLy; rw [c_1, Bool.true_and, show (inB p2 0 3 && inB p3 0 (mostF p2)) = true from c_3]; simp [k12]), rfl, (ly_CS hV hl9 hIQ hi0 (by omega) hfr hO9 hQ9 r1 r2 (fun j hj => (r3 j hj).trans (hfL j hj)) r4 (hd9.elim (fun h => Or.inl (by rw [h.2]; exact hdL h.1)) (fun h => Or.inr (Nat.le_trans hsz h))) gq1 lta gab gbc (hd9.elim (fun h => Or.inl (by have := hdl h.1; omega)) (fun h => Or.inr (by omega))) hAn (hd9.elim (fun h => hl9.1 _ (by rw [h.2, hdL h.1]; omega)) (fun h => hAn _ (Nat.le_trans hsz h))) (va_at.kept hN1 (hNk _ gq1 hwlt)) (x_kept hNa (hNk _ (by omega) (q_lt hNa))) (x_kept hNb (hNk _ (by omega) (q_lt hNb))) (x_kept hNc (hNk _ (by omega) (q_lt hNc))))⟩ (Nat.le_of_ble_eq_true rfl) (Nat.le_of_ble_eq_true rfl) dX6_layer_74
