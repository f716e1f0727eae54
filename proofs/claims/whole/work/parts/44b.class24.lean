set_option maxHeartbeats 4000000 in
set_option maxRecDepth 100000 in
theorem c_X6_roll (l : Launch) (hst : l.stackTraces = false) (D : va_G) (cA : Nat → ClassId) (lab : Nat → Nat) (nm : Nat → Nat → Nat) (rf : Nat → Nat → Option Nat) (f : Nat → Nat → Int32) (nC nL nV : Nat) (hi : CRi f nC nL nV) (A : Nat → Prop) (hl9 : CRl A lab nm rf nC nL) (H9 : Heap) (p1 : Int32) (p2 : Int32) (p3 : Int32) (p4 : Int32) (hAn : ∀ q, H9.size ≤ q → A q) : vx_Met l yX6_roll wsX6_roll (rmK 41 5 24) (xPX D cA (fun U => pK A (nm 12 0) U) [.ref (nm 0 0), .int p1, .int p2, .int p3, .int p4] (fun H => H = H9 ∧ CRv D cA lab nm rf f nC nL nV H ∧ IQ0 D cA nm H)) (xW (pJ (wrF (mS f) nL p1 p2 (okB p3) p4 false) none (CS D cA A (nm 12 0) (nm 0 0) ((rlS (mS f) (cl p1 p2) (enc p3 (-1) (-1))).2.1) nC nL nV)) A) (xT (wrF (mS f) nL p1 p2 (okB p3) p4 false) (fun k => (if k = 1 then eI else (if k = 2 then eA else eS))) (CS D cA A (nm 12 0) (nm 0 0) f nC nL nV) A) 5 24 A := by
  refine vx_ofW (cc := cX6_roll) (maxL := 5) (ret := none) (by decide) rfl ?_
  intro p e s m args below meth c s₁ B hml ht hv
  obtain ⟨rfl, ⟨hK, hX⟩, hI⟩ := hv
  have hx := B.exec
  have hb := B.bytes
  have hr := B.returns
  have hts := atoms_spec (ws := wsX6_roll) B.pre
  have hown : s.vm.findClass RX6 = some m.cls := findClass_of_methodNamed B.named
  have hlocks := B.notSynchronized
  have hl := lv_entry ([.ref (nm 0 0), .int p1, .int p2, .int p3, .int p4]) (n := 5) (Nat.le_of_ble_eq_true rfl)
  rw [lg_entry_eq]
  generalize (lg_sl ([.ref (nm 0 0), .int p1, .int p2, .int p3, .int p4]) ++ List.replicate (5 - (lg_sl ([.ref (nm 0 0), .int p1, .int p2, .int p3, .int p4])).length) Slot.unset).toArray = ls at hl ⊢
  have hl : lv_has ls 5 [(0, .ref (nm 0 0)), (1, .int p1), (2, .int p2), (3, .int p3), (4, .int p4)] := hl
  have h_X2 : ∀ w ∈ wsX20, w ∈ wsX6_roll := fun _ h => List.mem_cons_of_mem _ (List.mem_append_left _ (List.mem_append_left _ (List.mem_append_left _ (List.mem_append_left _ (List.mem_append_right _ h)))))
  have h_X4 : ∀ w ∈ wsX40, w ∈ wsX6_roll := fun _ h => List.mem_cons_of_mem _ (List.mem_append_left _ (List.mem_append_left _ (List.mem_append_left _ (List.mem_append_left _ (List.mem_append_left _ (List.mem_append_left _ (List.mem_append_right _ h)))))))
  have h_X5 : ∀ w ∈ wsX50, w ∈ wsX6_roll := fun _ h => List.mem_cons_of_mem _ (List.mem_append_left _ (List.mem_append_left _ (List.mem_append_left _ (List.mem_append_left _ (List.mem_append_left _ (List.mem_append_right _ h))))))
  have h_X6 : ∀ w ∈ wsX60, w ∈ wsX6_roll := fun _ h => List.mem_cons_of_mem _ (List.mem_append_left _ (List.mem_append_left _ (List.mem_append_left _ (List.mem_append_left _ (List.mem_append_left _ (List.mem_append_left _ (List.mem_append_left _ (List.mem_append_right _ h))))))))
  have h_Jx4a65c : ∀ w ∈ wsJx4a65c0, w ∈ wsX6_roll := fun _ h => List.mem_cons_of_mem _ (List.mem_append_left _ (List.mem_append_left _ (List.mem_append_left _ (List.mem_append_right _ h))))
  obtain ⟨hH9, hI, hIQ⟩ := hI
  subst hH9
  have hV := hI
  have hi0 := hi
  obtain ⟨hT, ⟨mcC, dC, capC, fC, hOC, hQC, hnC, hcC, hfC, -⟩, ⟨mcL, dL, capL, fL, hOL, hQL, hnL, hcL, hfL, -⟩, ⟨mcV, dV, capV, fV, hOV, hQV, hnV, hcV, hfV, -⟩, hC, hL, hHo, hRo, hCh, hRl, hEn⟩ := hI
  obtain ⟨b1, b2, b3, iSel, iGd, iCur, iZero, iLk, iLkA, iLkB⟩ := hi
  have hS : va_S A s.heap s.heap [] := va_S.rf
  have hCS0 : CS D cA A (nm 12 0) (nm 0 0) f nC nL nV s.heap := ⟨lab, nm, rf, hV, hl9, hIQ, rfl, rfl⟩
  refine lv_aload_n hx hb dX6_roll_0 rfl (lv_at hl 0 rfl) ?_
  refine lv_iload_n hx hb dX6_roll_1 rfl (lv_at hl 1 rfl) ?_
  refine lv_iload_n hx hb dX6_roll_2 rfl (lv_at hl 2 rfl) ?_
  refine xr_call (va_runV (As := [.int p1, .int p2]) (rest := []) ⟨hx, hb, hml, hown, hts⟩ (c_X6_isCell l D cA lab nm rf f nC nL nV (⟨b1, b2, b3, iSel, iGd, iCur, iZero, iLk, iLkA, iLkB⟩) p1 p2) (cwV 2 hts gX6_roll_X6_isCell rfl rfl rfl (by decide +kernel) ⟨Nat.le_of_ble_eq_true rfl, Nat.le_of_ble_eq_true rfl⟩) (xPV hK hT rfl hV) rfl rfl hl.1 rfl (lv_room (Nat.le_of_ble_eq_true rfl)) dX6_roll_3 ⟨Nat.le_of_ble_eq_true rfl, Nat.le_of_ble_eq_true rfl⟩) ?_
  refine xx_check (E0 := eI) (vx_runS (As := [.int (bI (okN nL p1 && okS p2))]) (rest := []) ⟨hx, hb, hml, hown, hts⟩ (c_X6_checkThere l hst D cA A (okN nL p1 && okS p2) (bI (okN nL p1 && okS p2)) rfl) (va_cwS 1 hts gX6_roll_X6_checkThere rfl rfl rfl (by decide +kernel) ⟨Nat.le_of_ble_eq_true rfl, Nat.le_of_ble_eq_true rfl⟩) (xPXS hK tK.blind (fun U hU hW => hX.2.at hS (fun _ h => h) hU hW) trivial) rfl rfl hl.1 rfl (lv_room (Nat.le_of_ble_eq_true rfl)) dX6_roll_6 ⟨Nat.le_of_ble_eq_true rfl, Nat.le_of_ble_eq_true rfl⟩) hS (fun b_1 ce q9 H1 z1 k1 hS1 g1 g2 g3 => ?_) (fun b_1 => ?_)
  · have hk9 : wrF (mS f) nL p1 p2 (okB p3) p4 false = 1 := by simp [wrF, mS, b_1]
    exact vx_out (fun x hx => (ht x hx).elim) hlocks g1 g2 g3 (fun t ht9 _ => ⟨by rw [hk9]; decide, by rw [hk9] <;> rfl, by rw [ht9]; exact hCS0.same (fun q h1 _ => k1 q h1), hS1.F ht9⟩) hS1.2.2 (Nat.le_of_ble_eq_true rfl) (Nat.le_of_ble_eq_true rfl)
  · have _b_1 := b_1
    obtain ⟨ip1, hip1, ep1⟩ := okN_of (n := nL) (v := p1) (by omega) (by have h9 := b_1; (try simp only [Bool.and_eq_true] at h9); simp [h9])
    subst ep1
    obtain ⟨ip2, hip2, ep2⟩ := okS_of (v := p2) (by have h9 := b_1; (try simp only [Bool.and_eq_true] at h9); simp [h9])
    subst ep2
    refine lv_iload_n hx hb dX6_roll_9 rfl (lv_at hl 3 rfl) ?_
    refine xr_call (va_runS (As := [.int p3]) (rest := []) ⟨hx, hb, hml, hown, hts⟩ (c_X6_isNumber l D cA p3) (va_cwS 1 hts gX6_roll_X6_isNumber rfl rfl rfl (by decide +kernel) ⟨Nat.le_of_ble_eq_true rfl, Nat.le_of_ble_eq_true rfl⟩) (xPS hK trivial) rfl rfl hl.1 rfl (lv_room (Nat.le_of_ble_eq_true rfl)) dX6_roll_10 ⟨Nat.le_of_ble_eq_true rfl, Nat.le_of_ble_eq_true rfl⟩) ?_
    refine xb_eq (tgt := 28) hx hb dX6_roll_13 (by decide) (fun c_2 => ?_) (fun c_2 => ?_)
    · refine lv_iconst (v := 0) hx hb dX6_roll_28 (by decide) ?_
      refine xx_check (E0 := eA) (vx_runS (As := [.int 0]) (rest := []) ⟨hx, hb, hml, hown, hts⟩ (c_X6_checkArgument l hst D cA A false 0 (by decide)) (va_cwS 1 hts gX6_roll_X6_checkArgument rfl rfl rfl (by decide +kernel) ⟨Nat.le_of_ble_eq_true rfl, Nat.le_of_ble_eq_true rfl⟩) (xPXS hK tK.blind (fun U hU hW => hX.2.at hS (fun _ h => h) hU hW) trivial) rfl rfl hl.1 rfl (lv_room (Nat.le_of_ble_eq_true rfl)) dX6_roll_29 ⟨Nat.le_of_ble_eq_true rfl, Nat.le_of_ble_eq_true rfl⟩) hS (fun b_3 ce q9 H1 z1 k1 hS1 g1 g2 g3 => ?_) (fun b_3 => ?_)
      · have hk9 : wrF (mS f) nL (nI ip1) (nI ip2) (okB p3) p4 false = 2 := by simp [wrF, mS, b_1, c_2]
        exact vx_out (fun x hx => (ht x hx).elim) hlocks g1 g2 g3 (fun t ht9 _ => ⟨by rw [hk9]; decide, by rw [hk9] <;> rfl, by rw [ht9]; exact hCS0.same (fun q h1 _ => k1 q h1), hS1.F ht9⟩) hS1.2.2 (Nat.le_of_ble_eq_true rfl) (Nat.le_of_ble_eq_true rfl)
      · exact absurd b_3 (by decide)
    · refine lv_iload hx hb dX6_roll_16 (lv_at hl 4 rfl) ?_
      refine xr_call (va_runS (As := [.int p4]) (rest := []) ⟨hx, hb, hml, hown, hts⟩ (c_X6_isOwner l D cA p4) (va_cwS 1 hts gX6_roll_X6_isOwner rfl rfl rfl (by decide +kernel) ⟨Nat.le_of_ble_eq_true rfl, Nat.le_of_ble_eq_true rfl⟩) (xPS hK trivial) rfl rfl hl.1 rfl (lv_room (Nat.le_of_ble_eq_true rfl)) dX6_roll_18 ⟨Nat.le_of_ble_eq_true rfl, Nat.le_of_ble_eq_true rfl⟩) ?_
      refine xb_eq (tgt := 28) hx hb dX6_roll_21 (by decide) (fun c_4 => ?_) (fun c_4 => ?_)
      · refine lv_iconst (v := 0) hx hb dX6_roll_28 (by decide) ?_
        refine xx_check (E0 := eA) (vx_runS (As := [.int 0]) (rest := []) ⟨hx, hb, hml, hown, hts⟩ (c_X6_checkArgument l hst D cA A false 0 (by decide)) (va_cwS 1 hts gX6_roll_X6_checkArgument rfl rfl rfl (by decide +kernel) ⟨Nat.le_of_ble_eq_true rfl, Nat.le_of_ble_eq_true rfl⟩) (xPXS hK tK.blind (fun U hU hW => hX.2.at hS (fun _ h => h) hU hW) trivial) rfl rfl hl.1 rfl (lv_room (Nat.le_of_ble_eq_true rfl)) dX6_roll_29 ⟨Nat.le_of_ble_eq_true rfl, Nat.le_of_ble_eq_true rfl⟩) hS (fun b_5 ce q9 H1 z1 k1 hS1 g1 g2 g3 => ?_) (fun b_5 => ?_)
        · have hk9 : wrF (mS f) nL (nI ip1) (nI ip2) (okB p3) p4 false = 2 := by simp [wrF, mS, b_1, c_2, c_4]
          exact vx_out (fun x hx => (ht x hx).elim) hlocks g1 g2 g3 (fun t ht9 _ => ⟨by rw [hk9]; decide, by rw [hk9] <;> rfl, by rw [ht9]; exact hCS0.same (fun q h1 _ => k1 q h1), hS1.F ht9⟩) hS1.2.2 (Nat.le_of_ble_eq_true rfl) (Nat.le_of_ble_eq_true rfl)
        · exact absurd b_5 (by decide)
      · refine lv_iconst (v := 1) hx hb dX6_roll_24 (by decide) ?_
        refine lv_goto (tgt := 29) hx hb dX6_roll_25 (by decide) ?_
        refine xx_check (E0 := eA) (vx_runS (As := [.int 1]) (rest := []) ⟨hx, hb, hml, hown, hts⟩ (c_X6_checkArgument l hst D cA A true 1 (by decide)) (va_cwS 1 hts gX6_roll_X6_checkArgument rfl rfl rfl (by decide +kernel) ⟨Nat.le_of_ble_eq_true rfl, Nat.le_of_ble_eq_true rfl⟩) (xPXS hK tK.blind (fun U hU hW => hX.2.at hS (fun _ h => h) hU hW) trivial) rfl rfl hl.1 rfl (lv_room (Nat.le_of_ble_eq_true rfl)) dX6_roll_29 ⟨Nat.le_of_ble_eq_true rfl, Nat.le_of_ble_eq_true rfl⟩) hS (fun b_6 ce q9 H1 z1 k1 hS1 g1 g2 g3 => ?_) (fun b_6 => ?_)
        · exact absurd b_6 (by decide)
        · have _b_6 := b_6
          refine lv_aload_n hx hb dX6_roll_32 rfl (lv_at hl 0 rfl) ?_
          refine lv_iload_n hx hb dX6_roll_33 rfl (lv_at hl 1 rfl) ?_
          refine lv_iload_n hx hb dX6_roll_34 rfl (lv_at hl 2 rfl) ?_
          refine lv_iload hx hb dX6_roll_35 (lv_at hl 4 rfl) ?_
          refine xr_call (va_runV (As := [.int (nI ip1), .int (nI ip2), .int p4]) (rest := []) ⟨hx, hb, hml, hown, hts⟩ (c_X6_isFreeFor l D cA lab nm rf f nC nL nV hi0 ip1 ip2 p4 (by omega) (by omega)) (cwV 3 hts gX6_roll_X6_isFreeFor rfl rfl rfl (by decide +kernel) ⟨Nat.le_of_ble_eq_true rfl, Nat.le_of_ble_eq_true rfl⟩) (xPV hK hT rfl hV) rfl rfl hl.1 rfl (lv_room (Nat.le_of_ble_eq_true rfl)) dX6_roll_37 ⟨Nat.le_of_ble_eq_true rfl, Nat.le_of_ble_eq_true rfl⟩) ?_
          refine xx_check (E0 := eS) (vx_runS (As := [.int (bI (frF f ip1 ip2 p4))]) (rest := []) ⟨hx, hb, hml, hown, hts⟩ (c_X6_checkState l hst D cA A (frF f ip1 ip2 p4) (bI (frF f ip1 ip2 p4)) rfl) (va_cwS 1 hts gX6_roll_X6_checkState rfl rfl rfl (by decide +kernel) ⟨Nat.le_of_ble_eq_true rfl, Nat.le_of_ble_eq_true rfl⟩) (xPXS hK tK.blind (fun U hU hW => hX.2.at hS (fun _ h => h) hU hW) trivial) rfl rfl hl.1 rfl (lv_room (Nat.le_of_ble_eq_true rfl)) dX6_roll_40 ⟨Nat.le_of_ble_eq_true rfl, Nat.le_of_ble_eq_true rfl⟩) hS (fun b_7 ce q9 H1 z1 k1 hS1 g1 g2 g3 => ?_) (fun b_7 => ?_)
          · have hk9 : wrF (mS f) nL (nI ip1) (nI ip2) (okB p3) p4 false = 3 := by rw [wr_ch hip1 b2 hip2 iLk c_2 c_4, b_7]; rfl
            exact vx_out (fun x hx => (ht x hx).elim) hlocks g1 g2 g3 (fun t ht9 _ => ⟨by rw [hk9]; decide, by rw [hk9] <;> rfl, by rw [ht9]; exact hCS0.same (fun q h1 _ => k1 q h1), hS1.F ht9⟩) hS1.2.2 (Nat.le_of_ble_eq_true rfl) (Nat.le_of_ble_eq_true rfl)
          · have _b_7 := b_7
            refine lv_aload_n hx hb dX6_roll_43 rfl (lv_at hl 0 rfl) ?_
            refine x_get (v := .ref (nm 1 1)) hx hb hts h_X6 hown hK hT rfl 1 (by decide) (hts (.fieldLink RX6 16 "ConfigBeacon" "allLayers" "Ljava/util/ArrayList;") (by decide +kernel)) (fun _ h => h) rfl dX6_roll_44 ?_
            refine lv_iload_n hx hb dX6_roll_47 rfl (lv_at hl 1 rfl) ?_
            refine xr_call (va_runV (As := [.int (nI ip1)]) (rest := []) ⟨hx, hb, hml, hown, hts⟩ (c_Jx4a65c_get_915e3 l D cA (nm 1 1) mcL dL nL capL fL ip1 (by omega) hnL hcL (some (nm 3 ip1)) (hfL ip1 (by omega))) (cwV 1 hts gX6_roll_Jx4a65c_get_915e3 rfl rfl rfl (by decide +kernel) ⟨Nat.le_of_ble_eq_true rfl, Nat.le_of_ble_eq_true rfl⟩) (xPV hK hOL rfl ⟨hOL, hQL (by omega)⟩) rfl rfl hl.1 rfl (lv_room (Nat.le_of_ble_eq_true rfl)) dX6_roll_48 ⟨Nat.le_of_ble_eq_true rfl, Nat.le_of_ble_eq_true rfl⟩) ?_
            refine x_cast hx hb hown (hts (.classLink RX6 84 "ConfigBeacon$Layer") (by decide +kernel)) hK (hL ip1 (by omega)) rfl dX6_roll_51 ?_
            refine x_getN (v := .ref (nm 5 ip1)) hx hb hts h_X4 hown hK (hL ip1 (by omega)) rfl 5 (by decide) (va_Nw.use rfl (hK.2.2.1 ("ConfigBeacon", 141, "ConfigBeacon$Layer", "rollouts", "[LConfigBeacon$Rollout;") (by decide))) (fun _ h => h) rfl dX6_roll_54 ?_
            refine lv_iload_n hx hb dX6_roll_57 rfl (lv_at hl 2 rfl) ?_
            have hsz0 := hS.1
            have hold : ∀ x : Nat, x < s.heap.size → s.heap[x]? = s.heap[x]? := fun _ _ => rfl
            refine xn_o (ci := 6) hx hb hts h_X5 tyX5 tyX5_ok hown (hts (.classLink RX6 145 RX5) (by decide +kernel)) (hts (.instantiable RX5 2) (by decide +kernel)) (hts (.initialized RX5) (by decide +kernel)) hK hS rfl [.null, .int 0] (fun j hj => by rcases (show j = 0 ∨ j = 1 from by omega) with rfl | rfl <;> rfl) (Nat.le_of_ble_eq_true rfl) (Nat.le_of_ble_eq_true rfl) dX6_roll_58 (fun q1 H hq1 gq1 hN1 zN oN hS => ?_)
            have hAq1 : A q1 := hAn _ gq1
            have hold : ∀ x : Nat, x < s.heap.size → H[x]? = s.heap[x]? := fun x hx => (oN x (Nat.lt_of_lt_of_le hx hsz0)).trans (hold x hx)
            refine lv_dup hx hb dX6_roll_61 rfl ?_
            have hsz0 := hS.1
            refine xn_o (ci := 3) hx hb hts h_X2 tyX2 tyX2_ok hown (hts (.classLink RX6 122 RX2) (by decide +kernel)) (hts (.instantiable RX2 3) (by decide +kernel)) (hts (.initialized RX2) (by decide +kernel)) hK hS rfl [.int 0, .int 0, .int 0] (fun j hj => by rcases (show j = 0 ∨ j = 1 ∨ j = 2 from by omega) with rfl | rfl | rfl <;> rfl) (Nat.le_of_ble_eq_true rfl) (Nat.le_of_ble_eq_true rfl) dX6_roll_62 (fun q2 H hq2 gq2 hN2 zN oN hS => ?_)
            have hAq2 : A q2 := hAn _ gq2
            have lt_q1_q2 : q1 < q2 := by rw [hq2]; exact x_lt hN1
            have hN1 := va_at.kept hN1 (oN _ (x_lt hN1))
            have hold : ∀ x : Nat, x < s.heap.size → H[x]? = s.heap[x]? := fun x hx => (oN x (Nat.lt_of_lt_of_le hx hsz0)).trans (hold x hx)
            refine lv_dup hx hb dX6_roll_65 rfl ?_
            refine lv_iload_n hx hb dX6_roll_66 rfl (lv_at hl 3 rfl) ?_
            refine lv_iconst (v := (-1)) hx hb dX6_roll_67 (by decide) ?_
            refine lv_iconst (v := (-1)) hx hb dX6_roll_68 (by decide) ?_
            have hsz0 := hS.1
            refine xw_calln (va_runI (As := [.int p3, .int (-1), .int (-1)]) (rest := [.ref q2, .ref q1, .ref q1, .int (nI ip2), .ref (nm 5 ip1)]) ⟨hx, hb, hml, hown, hts⟩ (c_X2_init l D cA q2 H p3 (-1) (-1)) (cwI 3 hts gX6_roll_X2_init rfl rfl rfl (hts (.initialized RX2) (by decide +kernel)) (hts (.methodLink RX6 124 yX2_init) (by decide +kernel)) (hts (.instanceMethod yX2_init) (by decide +kernel)) rfl (by decide +kernel) ⟨Nat.le_of_ble_eq_true rfl, Nat.le_of_ble_eq_true rfl⟩) (xPS hK ⟨rfl, hN2⟩) rfl rfl hl.1 rfl (lv_room (Nat.le_of_ble_eq_true rfl)) dX6_roll_69 ⟨Nat.le_of_ble_eq_true rfl, Nat.le_of_ble_eq_true rfl⟩) hS (fun z _ h => by rw [show z = q2 from h]; exact hAq2) (fun z h => by rw [show z = q2 from h]; exact hAq2) (fun H locs hN2 z9 q9 hS => ?_)
            have hold : ∀ x : Nat, x < s.heap.size → H[x]? = s.heap[x]? := fun x hx => (q9 x (Nat.lt_of_lt_of_le hx hsz0) (show ¬ x = q2 from by omega)).trans (hold x hx)
            have hN1 := va_at.kept hN1 (q9 _ (x_lt hN1) (show ¬ q1 = q2 from by omega))
            have hsz0 := hS.1
            refine xw_calln (va_runI (As := [.ref q2]) (rest := [.ref q1, .int (nI ip2), .ref (nm 5 ip1)]) ⟨hx, hb, hml, hown, hts⟩ (c_X5_init l D cA q1 H q2) (cwI 1 hts gX6_roll_X5_init rfl rfl rfl (hts (.initialized RX5) (by decide +kernel)) (hts (.methodLink RX6 147 yX5_init) (by decide +kernel)) (hts (.instanceMethod yX5_init) (by decide +kernel)) rfl (by decide +kernel) ⟨Nat.le_of_ble_eq_true rfl, Nat.le_of_ble_eq_true rfl⟩) (xPS hK ⟨rfl, hN1⟩) rfl rfl hl.1 rfl (lv_room (Nat.le_of_ble_eq_true rfl)) dX6_roll_72 ⟨Nat.le_of_ble_eq_true rfl, Nat.le_of_ble_eq_true rfl⟩) hS (fun z _ h => by rw [show z = q1 from h]; exact hAq1) (fun z h => by rw [show z = q1 from h]; exact hAq1) (fun H locs hN1 z9 q9 hS => ?_)
            have hold : ∀ x : Nat, x < s.heap.size → H[x]? = s.heap[x]? := fun x hx => (q9 x (Nat.lt_of_lt_of_le hx hsz0) (show ¬ x = q1 from by omega)).trans (hold x hx)
            have hN2 := va_at.kept hN2 (q9 _ (x_lt hN2) (show ¬ q2 = q1 from by omega))
            have h5l := q_lt (hRo ip1 (by omega))
            have hQ5 := x_kept (hRo ip1 (by omega)) (hold _ h5l)
            have hA5 : A (nm 5 ip1) := hl9.1 _ (by rw [(hl9.2.2.2.2.2.2.2.2.1 ip1 (by omega)).2.2.1]; omega)
            refine x_aastS hx hb hK 3 (r := (RX5, TX5, 2)) rfl hQ5 hS hA5 hN1 rfl ip2 rfl (by omega) (by decide) dX6_roll_75 (fun H locs hW1 z9 q9 hS => ?_)
            have hN1 := va_at.kept hN1 (q9 _ (show q1 ≠ nm 5 ip1 from by omega))
            have hN2 := va_at.kept hN2 (q9 _ (show q2 ≠ nm 5 ip1 from by omega))
            have hfr : ∀ q : Nat, q < s.heap.size → q ≠ nm 5 ip1 → H[q]? = s.heap[q]? := fun q h1 h2 => (q9 q h2).trans (hold q h1)
            refine vx_ret ?_
            exact xw_vret hx hb hr hlocks hS ⟨(by rw [wr_ch hip1 b2 hip2 iLk c_2 c_4, b_7]; rfl), rfl, (by show CS D cA A (nm 12 0) (nm 0 0) (mup (mup f 9 (cl (nI ip1) (nI ip2)) (enc p3 (-1) (-1))) 10 (cl (nI ip1) (nI ip2)) 0) nC nL nV H; rw [cl_nI (by omega) (by omega)]; exact rl_CS hV hl9 hIQ hip1 b2 b1 hip2 gq1 gq2 (by omega) hAq1 hAq2 hfr hW1 hN1 ⟨p3, (-1), (-1), rfl, ⟨c_2, Or.inl ⟨rfl, rfl⟩⟩, hN2⟩)⟩ (Nat.le_of_ble_eq_true rfl) (Nat.le_of_ble_eq_true rfl) dX6_roll_76
set_option maxHeartbeats 4000000 in
set_option maxRecDepth 100000 in
theorem c_X6_rollTemplate (l : Launch) (hst : l.stackTraces = false) (D : va_G) (cA : Nat → ClassId) (lab : Nat → Nat) (nm : Nat → Nat → Nat) (rf : Nat → Nat → Option Nat) (f : Nat → Nat → Int32) (nC nL nV : Nat) (hi : CRi f nC nL nV) (A : Nat → Prop) (hl9 : CRl A lab nm rf nC nL) (H9 : Heap) (p1 : Int32) (p2 : Int32) (p3 : Int32) (p4 : Int32) (p5 : Int32) (p6 : Int32) (hAn : ∀ q, H9.size ≤ q → A q) : vx_Met l yX6_rollTemplate wsX6_rollTemplate (rmK 41 5 24) (xPX D cA (fun U => pK A (nm 12 0) U) [.ref (nm 0 0), .int p1, .int p2, .int p3, .int p4, .int p5, .int p6] (fun H => H = H9 ∧ CRv D cA lab nm rf f nC nL nV H ∧ IQ0 D cA nm H)) (xW (pJ (wrF (mS f) nL p1 p2 (okB p3 && okT p4 p5) p6 false) none (CS D cA A (nm 12 0) (nm 0 0) ((rlS (mS f) (cl p1 p2) (enc p3 p4 p5)).2.1) nC nL nV)) A) (xT (wrF (mS f) nL p1 p2 (okB p3 && okT p4 p5) p6 false) (fun k => (if k = 1 then eI else (if k = 2 then eA else eS))) (CS D cA A (nm 12 0) (nm 0 0) f nC nL nV) A) 5 24 A := by
  refine vx_ofW (cc := cX6_rollTemplate) (maxL := 7) (ret := none) (by decide) rfl ?_
  intro p e s m args below meth c s₁ B hml ht hv
  obtain ⟨rfl, ⟨hK, hX⟩, hI⟩ := hv
  have hx := B.exec
  have hb := B.bytes
  have hr := B.returns
  have hts := atoms_spec (ws := wsX6_rollTemplate) B.pre
  have hown : s.vm.findClass RX6 = some m.cls := findClass_of_methodNamed B.named
  have hlocks := B.notSynchronized
  have hl := lv_entry ([.ref (nm 0 0), .int p1, .int p2, .int p3, .int p4, .int p5, .int p6]) (n := 7) (Nat.le_of_ble_eq_true rfl)
  rw [lg_entry_eq]
  generalize (lg_sl ([.ref (nm 0 0), .int p1, .int p2, .int p3, .int p4, .int p5, .int p6]) ++ List.replicate (7 - (lg_sl ([.ref (nm 0 0), .int p1, .int p2, .int p3, .int p4, .int p5, .int p6])).length) Slot.unset).toArray = ls at hl ⊢
  have hl : lv_has ls 7 [(0, .ref (nm 0 0)), (1, .int p1), (2, .int p2), (3, .int p3), (4, .int p4), (5, .int p5), (6, .int p6)] := hl
  have h_X2 : ∀ w ∈ wsX20, w ∈ wsX6_rollTemplate := fun _ h => List.mem_cons_of_mem _ (List.mem_append_left _ (List.mem_append_left _ (List.mem_append_left _ (List.mem_append_left _ (List.mem_append_right _ h)))))
  have h_X4 : ∀ w ∈ wsX40, w ∈ wsX6_rollTemplate := fun _ h => List.mem_cons_of_mem _ (List.mem_append_left _ (List.mem_append_left _ (List.mem_append_left _ (List.mem_append_left _ (List.mem_append_left _ (List.mem_append_left _ (List.mem_append_right _ h)))))))
  have h_X5 : ∀ w ∈ wsX50, w ∈ wsX6_rollTemplate := fun _ h => List.mem_cons_of_mem _ (List.mem_append_left _ (List.mem_append_left _ (List.mem_append_left _ (List.mem_append_left _ (List.mem_append_left _ (List.mem_append_right _ h))))))
  have h_X6 : ∀ w ∈ wsX60, w ∈ wsX6_rollTemplate := fun _ h => List.mem_cons_of_mem _ (List.mem_append_left _ (List.mem_append_left _ (List.mem_append_left _ (List.mem_append_left _ (List.mem_append_left _ (List.mem_append_left _ (List.mem_append_left _ (List.mem_append_right _ h))))))))
  have h_Jx4a65c : ∀ w ∈ wsJx4a65c0, w ∈ wsX6_rollTemplate := fun _ h => List.mem_cons_of_mem _ (List.mem_append_left _ (List.mem_append_left _ (List.mem_append_left _ (List.mem_append_right _ h))))
  obtain ⟨hH9, hI, hIQ⟩ := hI
  subst hH9
  have hV := hI
  have hi0 := hi
  obtain ⟨hT, ⟨mcC, dC, capC, fC, hOC, hQC, hnC, hcC, hfC, -⟩, ⟨mcL, dL, capL, fL, hOL, hQL, hnL, hcL, hfL, -⟩, ⟨mcV, dV, capV, fV, hOV, hQV, hnV, hcV, hfV, -⟩, hC, hL, hHo, hRo, hCh, hRl, hEn⟩ := hI
  obtain ⟨b1, b2, b3, iSel, iGd, iCur, iZero, iLk, iLkA, iLkB⟩ := hi
  have hS : va_S A s.heap s.heap [] := va_S.rf
  have hCS0 : CS D cA A (nm 12 0) (nm 0 0) f nC nL nV s.heap := ⟨lab, nm, rf, hV, hl9, hIQ, rfl, rfl⟩
  refine lv_aload_n hx hb dX6_rollTemplate_0 rfl (lv_at hl 0 rfl) ?_
  refine lv_iload_n hx hb dX6_rollTemplate_1 rfl (lv_at hl 1 rfl) ?_
  refine lv_iload_n hx hb dX6_rollTemplate_2 rfl (lv_at hl 2 rfl) ?_
  refine xr_call (va_runV (As := [.int p1, .int p2]) (rest := []) ⟨hx, hb, hml, hown, hts⟩ (c_X6_isCell l D cA lab nm rf f nC nL nV (⟨b1, b2, b3, iSel, iGd, iCur, iZero, iLk, iLkA, iLkB⟩) p1 p2) (cwV 2 hts gX6_rollTemplate_X6_isCell rfl rfl rfl (by decide +kernel) ⟨Nat.le_of_ble_eq_true rfl, Nat.le_of_ble_eq_true rfl⟩) (xPV hK hT rfl hV) rfl rfl hl.1 rfl (lv_room (Nat.le_of_ble_eq_true rfl)) dX6_rollTemplate_3 ⟨Nat.le_of_ble_eq_true rfl, Nat.le_of_ble_eq_true rfl⟩) ?_
  refine xx_check (E0 := eI) (vx_runS (As := [.int (bI (okN nL p1 && okS p2))]) (rest := []) ⟨hx, hb, hml, hown, hts⟩ (c_X6_checkThere l hst D cA A (okN nL p1 && okS p2) (bI (okN nL p1 && okS p2)) rfl) (va_cwS 1 hts gX6_rollTemplate_X6_checkThere rfl rfl rfl (by decide +kernel) ⟨Nat.le_of_ble_eq_true rfl, Nat.le_of_ble_eq_true rfl⟩) (xPXS hK tK.blind (fun U hU hW => hX.2.at hS (fun _ h => h) hU hW) trivial) rfl rfl hl.1 rfl (lv_room (Nat.le_of_ble_eq_true rfl)) dX6_rollTemplate_6 ⟨Nat.le_of_ble_eq_true rfl, Nat.le_of_ble_eq_true rfl⟩) hS (fun b_1 ce q9 H1 z1 k1 hS1 g1 g2 g3 => ?_) (fun b_1 => ?_)
  · have hk9 : wrF (mS f) nL p1 p2 (okB p3 && okT p4 p5) p6 false = 1 := by simp [wrF, mS, b_1]
    exact vx_out (fun x hx => (ht x hx).elim) hlocks g1 g2 g3 (fun t ht9 _ => ⟨by rw [hk9]; decide, by rw [hk9] <;> rfl, by rw [ht9]; exact hCS0.same (fun q h1 _ => k1 q h1), hS1.F ht9⟩) hS1.2.2 (Nat.le_of_ble_eq_true rfl) (Nat.le_of_ble_eq_true rfl)
  · have _b_1 := b_1
    obtain ⟨ip1, hip1, ep1⟩ := okN_of (n := nL) (v := p1) (by omega) (by have h9 := b_1; (try simp only [Bool.and_eq_true] at h9); simp [h9])
    subst ep1
    obtain ⟨ip2, hip2, ep2⟩ := okS_of (v := p2) (by have h9 := b_1; (try simp only [Bool.and_eq_true] at h9); simp [h9])
    subst ep2
    refine lv_iload_n hx hb dX6_rollTemplate_9 rfl (lv_at hl 3 rfl) ?_
    refine lv_iload hx hb dX6_rollTemplate_10 (lv_at hl 4 rfl) ?_
    refine lv_iload hx hb dX6_rollTemplate_12 (lv_at hl 5 rfl) ?_
    refine xr_call (va_runS (As := [.int p3, .int p4, .int p5]) (rest := []) ⟨hx, hb, hml, hown, hts⟩ (c_X6_isTemplate l D cA p3 p4 p5) (va_cwS 3 hts gX6_rollTemplate_X6_isTemplate rfl rfl rfl (by decide +kernel) ⟨Nat.le_of_ble_eq_true rfl, Nat.le_of_ble_eq_true rfl⟩) (xPS hK trivial) rfl rfl hl.1 rfl (lv_room (Nat.le_of_ble_eq_true rfl)) dX6_rollTemplate_14 ⟨Nat.le_of_ble_eq_true rfl, Nat.le_of_ble_eq_true rfl⟩) ?_
    refine xb_eq (tgt := 32) hx hb dX6_rollTemplate_17 (by decide) (fun c_2 => ?_) (fun c_2 => ?_)
    · refine lv_iconst (v := 0) hx hb dX6_rollTemplate_32 (by decide) ?_
      refine xx_check (E0 := eA) (vx_runS (As := [.int 0]) (rest := []) ⟨hx, hb, hml, hown, hts⟩ (c_X6_checkArgument l hst D cA A false 0 (by decide)) (va_cwS 1 hts gX6_rollTemplate_X6_checkArgument rfl rfl rfl (by decide +kernel) ⟨Nat.le_of_ble_eq_true rfl, Nat.le_of_ble_eq_true rfl⟩) (xPXS hK tK.blind (fun U hU hW => hX.2.at hS (fun _ h => h) hU hW) trivial) rfl rfl hl.1 rfl (lv_room (Nat.le_of_ble_eq_true rfl)) dX6_rollTemplate_33 ⟨Nat.le_of_ble_eq_true rfl, Nat.le_of_ble_eq_true rfl⟩) hS (fun b_3 ce q9 H1 z1 k1 hS1 g1 g2 g3 => ?_) (fun b_3 => ?_)
      · have hk9 : wrF (mS f) nL (nI ip1) (nI ip2) (okB p3 && okT p4 p5) p6 false = 2 := by simp [wrF, mS, b_1, c_2]
        exact vx_out (fun x hx => (ht x hx).elim) hlocks g1 g2 g3 (fun t ht9 _ => ⟨by rw [hk9]; decide, by rw [hk9] <;> rfl, by rw [ht9]; exact hCS0.same (fun q h1 _ => k1 q h1), hS1.F ht9⟩) hS1.2.2 (Nat.le_of_ble_eq_true rfl) (Nat.le_of_ble_eq_true rfl)
      · exact absurd b_3 (by decide)
    · refine lv_iload hx hb dX6_rollTemplate_20 (lv_at hl 6 rfl) ?_
      refine xr_call (va_runS (As := [.int p6]) (rest := []) ⟨hx, hb, hml, hown, hts⟩ (c_X6_isOwner l D cA p6) (va_cwS 1 hts gX6_rollTemplate_X6_isOwner rfl rfl rfl (by decide +kernel) ⟨Nat.le_of_ble_eq_true rfl, Nat.le_of_ble_eq_true rfl⟩) (xPS hK trivial) rfl rfl hl.1 rfl (lv_room (Nat.le_of_ble_eq_true rfl)) dX6_rollTemplate_22 ⟨Nat.le_of_ble_eq_true rfl, Nat.le_of_ble_eq_true rfl⟩) ?_
      refine xb_eq (tgt := 32) hx hb dX6_rollTemplate_25 (by decide) (fun c_4 => ?_) (fun c_4 => ?_)
      · refine lv_iconst (v := 0) hx hb dX6_rollTemplate_32 (by decide) ?_
        refine xx_check (E0 := eA) (vx_runS (As := [.int 0]) (rest := []) ⟨hx, hb, hml, hown, hts⟩ (c_X6_checkArgument l hst D cA A false 0 (by decide)) (va_cwS 1 hts gX6_rollTemplate_X6_checkArgument rfl rfl rfl (by decide +kernel) ⟨Nat.le_of_ble_eq_true rfl, Nat.le_of_ble_eq_true rfl⟩) (xPXS hK tK.blind (fun U hU hW => hX.2.at hS (fun _ h => h) hU hW) trivial) rfl rfl hl.1 rfl (lv_room (Nat.le_of_ble_eq_true rfl)) dX6_rollTemplate_33 ⟨Nat.le_of_ble_eq_true rfl, Nat.le_of_ble_eq_true rfl⟩) hS (fun b_5 ce q9 H1 z1 k1 hS1 g1 g2 g3 => ?_) (fun b_5 => ?_)
        · have hk9 : wrF (mS f) nL (nI ip1) (nI ip2) (okB p3 && okT p4 p5) p6 false = 2 := by simp [wrF, mS, b_1, c_2, c_4]
          exact vx_out (fun x hx => (ht x hx).elim) hlocks g1 g2 g3 (fun t ht9 _ => ⟨by rw [hk9]; decide, by rw [hk9] <;> rfl, by rw [ht9]; exact hCS0.same (fun q h1 _ => k1 q h1), hS1.F ht9⟩) hS1.2.2 (Nat.le_of_ble_eq_true rfl) (Nat.le_of_ble_eq_true rfl)
        · exact absurd b_5 (by decide)
      · refine lv_iconst (v := 1) hx hb dX6_rollTemplate_28 (by decide) ?_
        refine lv_goto (tgt := 33) hx hb dX6_rollTemplate_29 (by decide) ?_
        refine xx_check (E0 := eA) (vx_runS (As := [.int 1]) (rest := []) ⟨hx, hb, hml, hown, hts⟩ (c_X6_checkArgument l hst D cA A true 1 (by decide)) (va_cwS 1 hts gX6_rollTemplate_X6_checkArgument rfl rfl rfl (by decide +kernel) ⟨Nat.le_of_ble_eq_true rfl, Nat.le_of_ble_eq_true rfl⟩) (xPXS hK tK.blind (fun U hU hW => hX.2.at hS (fun _ h => h) hU hW) trivial) rfl rfl hl.1 rfl (lv_room (Nat.le_of_ble_eq_true rfl)) dX6_rollTemplate_33 ⟨Nat.le_of_ble_eq_true rfl, Nat.le_of_ble_eq_true rfl⟩) hS (fun b_6 ce q9 H1 z1 k1 hS1 g1 g2 g3 => ?_) (fun b_6 => ?_)
        · exact absurd b_6 (by decide)
        · have _b_6 := b_6
          refine lv_aload_n hx hb dX6_rollTemplate_36 rfl (lv_at hl 0 rfl) ?_
          refine lv_iload_n hx hb dX6_rollTemplate_37 rfl (lv_at hl 1 rfl) ?_
          refine lv_iload_n hx hb dX6_rollTemplate_38 rfl (lv_at hl 2 rfl) ?_
          refine lv_iload hx hb dX6_rollTemplate_39 (lv_at hl 6 rfl) ?_
          refine xr_call (va_runV (As := [.int (nI ip1), .int (nI ip2), .int p6]) (rest := []) ⟨hx, hb, hml, hown, hts⟩ (c_X6_isFreeFor l D cA lab nm rf f nC nL nV hi0 ip1 ip2 p6 (by omega) (by omega)) (cwV 3 hts gX6_rollTemplate_X6_isFreeFor rfl rfl rfl (by decide +kernel) ⟨Nat.le_of_ble_eq_true rfl, Nat.le_of_ble_eq_true rfl⟩) (xPV hK hT rfl hV) rfl rfl hl.1 rfl (lv_room (Nat.le_of_ble_eq_true rfl)) dX6_rollTemplate_41 ⟨Nat.le_of_ble_eq_true rfl, Nat.le_of_ble_eq_true rfl⟩) ?_
          refine xx_check (E0 := eS) (vx_runS (As := [.int (bI (frF f ip1 ip2 p6))]) (rest := []) ⟨hx, hb, hml, hown, hts⟩ (c_X6_checkState l hst D cA A (frF f ip1 ip2 p6) (bI (frF f ip1 ip2 p6)) rfl) (va_cwS 1 hts gX6_rollTemplate_X6_checkState rfl rfl rfl (by decide +kernel) ⟨Nat.le_of_ble_eq_true rfl, Nat.le_of_ble_eq_true rfl⟩) (xPXS hK tK.blind (fun U hU hW => hX.2.at hS (fun _ h => h) hU hW) trivial) rfl rfl hl.1 rfl (lv_room (Nat.le_of_ble_eq_true rfl)) dX6_rollTemplate_44 ⟨Nat.le_of_ble_eq_true rfl, Nat.le_of_ble_eq_true rfl⟩) hS (fun b_7 ce q9 H1 z1 k1 hS1 g1 g2 g3 => ?_) (fun b_7 => ?_)
          · have hk9 : wrF (mS f) nL (nI ip1) (nI ip2) (okB p3 && okT p4 p5) p6 false = 3 := by rw [wr_ch hip1 b2 hip2 iLk c_2 c_4, b_7]; rfl
            exact vx_out (fun x hx => (ht x hx).elim) hlocks g1 g2 g3 (fun t ht9 _ => ⟨by rw [hk9]; decide, by rw [hk9] <;> rfl, by rw [ht9]; exact hCS0.same (fun q h1 _ => k1 q h1), hS1.F ht9⟩) hS1.2.2 (Nat.le_of_ble_eq_true rfl) (Nat.le_of_ble_eq_true rfl)
          · have _b_7 := b_7
            refine lv_aload_n hx hb dX6_rollTemplate_47 rfl (lv_at hl 0 rfl) ?_
            refine x_get (v := .ref (nm 1 1)) hx hb hts h_X6 hown hK hT rfl 1 (by decide) (hts (.fieldLink RX6 16 "ConfigBeacon" "allLayers" "Ljava/util/ArrayList;") (by decide +kernel)) (fun _ h => h) rfl dX6_rollTemplate_48 ?_
            refine lv_iload_n hx hb dX6_rollTemplate_51 rfl (lv_at hl 1 rfl) ?_
            refine xr_call (va_runV (As := [.int (nI ip1)]) (rest := []) ⟨hx, hb, hml, hown, hts⟩ (c_Jx4a65c_get_915e3 l D cA (nm 1 1) mcL dL nL capL fL ip1 (by omega) hnL hcL (some (nm 3 ip1)) (hfL ip1 (by omega))) (cwV 1 hts gX6_rollTemplate_Jx4a65c_get_915e3 rfl rfl rfl (by decide +kernel) ⟨Nat.le_of_ble_eq_true rfl, Nat.le_of_ble_eq_true rfl⟩) (xPV hK hOL rfl ⟨hOL, hQL (by omega)⟩) rfl rfl hl.1 rfl (lv_room (Nat.le_of_ble_eq_true rfl)) dX6_rollTemplate_52 ⟨Nat.le_of_ble_eq_true rfl, Nat.le_of_ble_eq_true rfl⟩) ?_
            refine x_cast hx hb hown (hts (.classLink RX6 84 "ConfigBeacon$Layer") (by decide +kernel)) hK (hL ip1 (by omega)) rfl dX6_rollTemplate_55 ?_
            refine x_getN (v := .ref (nm 5 ip1)) hx hb hts h_X4 hown hK (hL ip1 (by omega)) rfl 5 (by decide) (va_Nw.use rfl (hK.2.2.1 ("ConfigBeacon", 141, "ConfigBeacon$Layer", "rollouts", "[LConfigBeacon$Rollout;") (by decide))) (fun _ h => h) rfl dX6_rollTemplate_58 ?_
            refine lv_iload_n hx hb dX6_rollTemplate_61 rfl (lv_at hl 2 rfl) ?_
            have hsz0 := hS.1
            have hold : ∀ x : Nat, x < s.heap.size → s.heap[x]? = s.heap[x]? := fun _ _ => rfl
            refine xn_o (ci := 6) hx hb hts h_X5 tyX5 tyX5_ok hown (hts (.classLink RX6 145 RX5) (by decide +kernel)) (hts (.instantiable RX5 2) (by decide +kernel)) (hts (.initialized RX5) (by decide +kernel)) hK hS rfl [.null, .int 0] (fun j hj => by rcases (show j = 0 ∨ j = 1 from by omega) with rfl | rfl <;> rfl) (Nat.le_of_ble_eq_true rfl) (Nat.le_of_ble_eq_true rfl) dX6_rollTemplate_62 (fun q1 H hq1 gq1 hN1 zN oN hS => ?_)
            have hAq1 : A q1 := hAn _ gq1
            have hold : ∀ x : Nat, x < s.heap.size → H[x]? = s.heap[x]? := fun x hx => (oN x (Nat.lt_of_lt_of_le hx hsz0)).trans (hold x hx)
            refine lv_dup hx hb dX6_rollTemplate_65 rfl ?_
            have hsz0 := hS.1
            refine xn_o (ci := 3) hx hb hts h_X2 tyX2 tyX2_ok hown (hts (.classLink RX6 122 RX2) (by decide +kernel)) (hts (.instantiable RX2 3) (by decide +kernel)) (hts (.initialized RX2) (by decide +kernel)) hK hS rfl [.int 0, .int 0, .int 0] (fun j hj => by rcases (show j = 0 ∨ j = 1 ∨ j = 2 from by omega) with rfl | rfl | rfl <;> rfl) (Nat.le_of_ble_eq_true rfl) (Nat.le_of_ble_eq_true rfl) dX6_rollTemplate_66 (fun q2 H hq2 gq2 hN2 zN oN hS => ?_)
            have hAq2 : A q2 := hAn _ gq2
            have lt_q1_q2 : q1 < q2 := by rw [hq2]; exact x_lt hN1
            have hN1 := va_at.kept hN1 (oN _ (x_lt hN1))
            have hold : ∀ x : Nat, x < s.heap.size → H[x]? = s.heap[x]? := fun x hx => (oN x (Nat.lt_of_lt_of_le hx hsz0)).trans (hold x hx)
            refine lv_dup hx hb dX6_rollTemplate_69 rfl ?_
            refine lv_iload_n hx hb dX6_rollTemplate_70 rfl (lv_at hl 3 rfl) ?_
            refine lv_iload hx hb dX6_rollTemplate_71 (lv_at hl 4 rfl) ?_
            refine lv_iload hx hb dX6_rollTemplate_73 (lv_at hl 5 rfl) ?_
            have hsz0 := hS.1
            refine xw_calln (va_runI (As := [.int p3, .int p4, .int p5]) (rest := [.ref q2, .ref q1, .ref q1, .int (nI ip2), .ref (nm 5 ip1)]) ⟨hx, hb, hml, hown, hts⟩ (c_X2_init l D cA q2 H p3 p4 p5) (cwI 3 hts gX6_rollTemplate_X2_init rfl rfl rfl (hts (.initialized RX2) (by decide +kernel)) (hts (.methodLink RX6 124 yX2_init) (by decide +kernel)) (hts (.instanceMethod yX2_init) (by decide +kernel)) rfl (by decide +kernel) ⟨Nat.le_of_ble_eq_true rfl, Nat.le_of_ble_eq_true rfl⟩) (xPS hK ⟨rfl, hN2⟩) rfl rfl hl.1 rfl (lv_room (Nat.le_of_ble_eq_true rfl)) dX6_rollTemplate_75 ⟨Nat.le_of_ble_eq_true rfl, Nat.le_of_ble_eq_true rfl⟩) hS (fun z _ h => by rw [show z = q2 from h]; exact hAq2) (fun z h => by rw [show z = q2 from h]; exact hAq2) (fun H locs hN2 z9 q9 hS => ?_)
            have hold : ∀ x : Nat, x < s.heap.size → H[x]? = s.heap[x]? := fun x hx => (q9 x (Nat.lt_of_lt_of_le hx hsz0) (show ¬ x = q2 from by omega)).trans (hold x hx)
            have hN1 := va_at.kept hN1 (q9 _ (x_lt hN1) (show ¬ q1 = q2 from by omega))
            have hsz0 := hS.1
            refine xw_calln (va_runI (As := [.ref q2]) (rest := [.ref q1, .int (nI ip2), .ref (nm 5 ip1)]) ⟨hx, hb, hml, hown, hts⟩ (c_X5_init l D cA q1 H q2) (cwI 1 hts gX6_rollTemplate_X5_init rfl rfl rfl (hts (.initialized RX5) (by decide +kernel)) (hts (.methodLink RX6 147 yX5_init) (by decide +kernel)) (hts (.instanceMethod yX5_init) (by decide +kernel)) rfl (by decide +kernel) ⟨Nat.le_of_ble_eq_true rfl, Nat.le_of_ble_eq_true rfl⟩) (xPS hK ⟨rfl, hN1⟩) rfl rfl hl.1 rfl (lv_room (Nat.le_of_ble_eq_true rfl)) dX6_rollTemplate_78 ⟨Nat.le_of_ble_eq_true rfl, Nat.le_of_ble_eq_true rfl⟩) hS (fun z _ h => by rw [show z = q1 from h]; exact hAq1) (fun z h => by rw [show z = q1 from h]; exact hAq1) (fun H locs hN1 z9 q9 hS => ?_)
            have hold : ∀ x : Nat, x < s.heap.size → H[x]? = s.heap[x]? := fun x hx => (q9 x (Nat.lt_of_lt_of_le hx hsz0) (show ¬ x = q1 from by omega)).trans (hold x hx)
            have hN2 := va_at.kept hN2 (q9 _ (x_lt hN2) (show ¬ q2 = q1 from by omega))
            have h5l := q_lt (hRo ip1 (by omega))
            have hQ5 := x_kept (hRo ip1 (by omega)) (hold _ h5l)
            have hA5 : A (nm 5 ip1) := hl9.1 _ (by rw [(hl9.2.2.2.2.2.2.2.2.1 ip1 (by omega)).2.2.1]; omega)
            refine x_aastS hx hb hK 3 (r := (RX5, TX5, 2)) rfl hQ5 hS hA5 hN1 rfl ip2 rfl (by omega) (by decide) dX6_rollTemplate_81 (fun H locs hW1 z9 q9 hS => ?_)
            have hN1 := va_at.kept hN1 (q9 _ (show q1 ≠ nm 5 ip1 from by omega))
            have hN2 := va_at.kept hN2 (q9 _ (show q2 ≠ nm 5 ip1 from by omega))
            have hfr : ∀ q : Nat, q < s.heap.size → q ≠ nm 5 ip1 → H[q]? = s.heap[q]? := fun q h1 h2 => (q9 q h2).trans (hold q h1)
            refine vx_ret ?_
            exact xw_vret hx hb hr hlocks hS ⟨(by rw [wr_ch hip1 b2 hip2 iLk c_2 c_4, b_7]; rfl), rfl, (by show CS D cA A (nm 12 0) (nm 0 0) (mup (mup f 9 (cl (nI ip1) (nI ip2)) (enc p3 p4 p5)) 10 (cl (nI ip1) (nI ip2)) 0) nC nL nV H; rw [cl_nI (by omega) (by omega)]; exact rl_CS hV hl9 hIQ hip1 b2 b1 hip2 gq1 gq2 (by omega) hAq1 hAq2 hfr hW1 hN1 ⟨p3, p4, p5, rfl, (by have h9 := c_2; simp only [Bool.and_eq_true] at h9; exact ⟨h9.1, Or.inr h9.2⟩), hN2⟩)⟩ (Nat.le_of_ble_eq_true rfl) (Nat.le_of_ble_eq_true rfl) dX6_rollTemplate_82
