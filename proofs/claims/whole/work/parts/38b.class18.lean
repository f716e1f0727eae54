set_option maxHeartbeats 4000000 in
set_option maxRecDepth 100000 in
theorem c_X6_move (l : Launch) (hst : l.stackTraces = false) (D : va_G) (cA : Nat → ClassId) (lab : Nat → Nat) (nm : Nat → Nat → Nat) (rf : Nat → Nat → Option Nat) (f : Nat → Nat → Int32) (nC nL nV : Nat) (hi : CRi f nC nL nV) (A : Nat → Prop) (hl9 : CRl A lab nm rf nC nL) (H9 : Heap) (p1 : Int32) (p2 : Int32) (p3 : Int32) : vx_Met l yX6_move wsX6_move (rmK 41 3 18) (xPX D cA (fun U => pK A (nm 12 0) U) [.ref (nm 0 0), .int p1, .int p2, .int p3] (fun H => H = H9 ∧ CRv D cA lab nm rf f nC nL nV H ∧ IQ0 D cA nm H)) (xW (pJ (kMv nC p1 p2 p3) none (CS D cA A (nm 12 0) (nm 0 0) ((mvS (mS f) p1 p2 p3).2.1) nC nL nV)) A) (xT (kMv nC p1 p2 p3) (fun k => (if k = 1 then eI else eA)) (CS D cA A (nm 12 0) (nm 0 0) f nC nL nV) A) 3 18 A := by
  refine vx_ofW (cc := cX6_move) (maxL := 5) (ret := none) (by decide) rfl ?_
  intro p e s m args below meth c s₁ B hml ht hv
  obtain ⟨rfl, ⟨hK, hX⟩, hI⟩ := hv
  have hx := B.exec
  have hb := B.bytes
  have hr := B.returns
  have hts := atoms_spec (ws := wsX6_move) B.pre
  have hown : s.vm.findClass RX6 = some m.cls := findClass_of_methodNamed B.named
  have hlocks := B.notSynchronized
  have hl := lv_entry ([.ref (nm 0 0), .int p1, .int p2, .int p3]) (n := 5) (Nat.le_of_ble_eq_true rfl)
  rw [lg_entry_eq]
  generalize (lg_sl ([.ref (nm 0 0), .int p1, .int p2, .int p3]) ++ List.replicate (5 - (lg_sl ([.ref (nm 0 0), .int p1, .int p2, .int p3])).length) Slot.unset).toArray = ls at hl ⊢
  have hl : lv_has ls 5 [(0, .ref (nm 0 0)), (1, .int p1), (2, .int p2), (3, .int p3)] := hl
  have h_X0 : ∀ w ∈ wsX00, w ∈ wsX6_move := fun _ h => List.mem_cons_of_mem _ (List.mem_append_left _ (List.mem_append_left _ (List.mem_append_left _ (List.mem_append_right _ h))))
  have h_X6 : ∀ w ∈ wsX60, w ∈ wsX6_move := fun _ h => List.mem_cons_of_mem _ (List.mem_append_left _ (List.mem_append_left _ (List.mem_append_left _ (List.mem_append_left _ (List.mem_append_right _ h)))))
  have h_Jx4a65c : ∀ w ∈ wsJx4a65c0, w ∈ wsX6_move := fun _ h => List.mem_cons_of_mem _ (List.mem_append_left _ (List.mem_append_left _ (List.mem_append_right _ h)))
  obtain ⟨hH9, hI, hIQ⟩ := hI
  subst hH9
  have hV := hI
  have hi0 := hi
  obtain ⟨hT, ⟨mcC, dC, capC, fC, hOC, hQC, hnC, hcC, hfC, -⟩, ⟨mcL, dL, capL, fL, hOL, hQL, hnL, hcL, hfL, -⟩, ⟨mcV, dV, capV, fV, hOV, hQV, hnV, hcV, hfV, -⟩, hC, hL, hHo, hRo, hCh, hRl, hEn⟩ := hI
  obtain ⟨b1, b2, b3, iSel, iGd, iCur, iZero, iLk, iLkA, iLkB⟩ := hi
  have hS : va_S A s.heap s.heap [] := va_S.rf
  have hCS0 : CS D cA A (nm 12 0) (nm 0 0) f nC nL nV s.heap := ⟨lab, nm, rf, hV, hl9, hIQ, rfl, rfl⟩
  refine lv_aload_n hx hb dX6_move_0 rfl (lv_at hl 0 rfl) ?_
  refine lv_iload_n hx hb dX6_move_1 rfl (lv_at hl 1 rfl) ?_
  refine xr_call (va_runV (As := [.int p1]) (rest := []) ⟨hx, hb, hml, hown, hts⟩ (c_X6_isClient l D cA lab nm rf f nC nL nV (⟨b1, b2, b3, iSel, iGd, iCur, iZero, iLk, iLkA, iLkB⟩) p1) (cwV 1 hts gX6_move_X6_isClient rfl rfl rfl (by decide +kernel) ⟨Nat.le_of_ble_eq_true rfl, Nat.le_of_ble_eq_true rfl⟩) (xPV hK hT rfl hV) rfl rfl hl.1 rfl (lv_room (Nat.le_of_ble_eq_true rfl)) dX6_move_2 ⟨Nat.le_of_ble_eq_true rfl, Nat.le_of_ble_eq_true rfl⟩) ?_
  refine xx_check (E0 := eI) (vx_runS (As := [.int (bI (okN nC p1))]) (rest := []) ⟨hx, hb, hml, hown, hts⟩ (c_X6_checkThere l hst D cA A (okN nC p1) (bI (okN nC p1)) rfl) (va_cwS 1 hts gX6_move_X6_checkThere rfl rfl rfl (by decide +kernel) ⟨Nat.le_of_ble_eq_true rfl, Nat.le_of_ble_eq_true rfl⟩) (xPXS hK tK.blind (fun U hU hW => hX.2.at hS (fun _ h => h) hU hW) trivial) rfl rfl hl.1 rfl (lv_room (Nat.le_of_ble_eq_true rfl)) dX6_move_5 ⟨Nat.le_of_ble_eq_true rfl, Nat.le_of_ble_eq_true rfl⟩) hS (fun b_1 ce q9 H1 z1 k1 hS1 g1 g2 g3 => ?_) (fun b_1 => ?_)
  · have hk9 : kMv nC p1 p2 p3 = 1 := by simp [kMv, b_1]
    exact vx_out (fun x hx => (ht x hx).elim) hlocks g1 g2 g3 (fun t ht9 _ => ⟨by rw [hk9]; decide, by rw [hk9] <;> rfl, by rw [ht9]; exact hCS0.same (fun q h1 _ => k1 q h1), hS1.F ht9⟩) hS1.2.2 (Nat.le_of_ble_eq_true rfl) (Nat.le_of_ble_eq_true rfl)
  · have _b_1 := b_1
    obtain ⟨ip1, hip1, ep1⟩ := okN_of (n := nC) (v := p1) (by omega) (by have h9 := b_1; (try simp only [Bool.and_eq_true] at h9); simp [h9])
    subst ep1
    refine lv_iload_n hx hb dX6_move_8 rfl (lv_at hl 2 rfl) ?_
    refine xr_call (va_runS (As := [.int p2]) (rest := []) ⟨hx, hb, hml, hown, hts⟩ (c_X6_isArea l D cA p2) (va_cwS 1 hts gX6_move_X6_isArea rfl rfl rfl (by decide +kernel) ⟨Nat.le_of_ble_eq_true rfl, Nat.le_of_ble_eq_true rfl⟩) (xPS hK trivial) rfl rfl hl.1 rfl (lv_room (Nat.le_of_ble_eq_true rfl)) dX6_move_9 ⟨Nat.le_of_ble_eq_true rfl, Nat.le_of_ble_eq_true rfl⟩) ?_
    refine xb_eq (tgt := 26) hx hb dX6_move_12 (by decide) (fun c_2 => ?_) (fun c_2 => ?_)
    · refine lv_iconst (v := 0) hx hb dX6_move_26 (by decide) ?_
      refine xx_check (E0 := eA) (vx_runS (As := [.int 0]) (rest := []) ⟨hx, hb, hml, hown, hts⟩ (c_X6_checkArgument l hst D cA A false 0 (by decide)) (va_cwS 1 hts gX6_move_X6_checkArgument rfl rfl rfl (by decide +kernel) ⟨Nat.le_of_ble_eq_true rfl, Nat.le_of_ble_eq_true rfl⟩) (xPXS hK tK.blind (fun U hU hW => hX.2.at hS (fun _ h => h) hU hW) trivial) rfl rfl hl.1 rfl (lv_room (Nat.le_of_ble_eq_true rfl)) dX6_move_27 ⟨Nat.le_of_ble_eq_true rfl, Nat.le_of_ble_eq_true rfl⟩) hS (fun b_3 ce q9 H1 z1 k1 hS1 g1 g2 g3 => ?_) (fun b_3 => ?_)
      · have hk9 : kMv nC (nI ip1) p2 p3 = 2 := by simp [kMv, b_1, c_2]
        exact vx_out (fun x hx => (ht x hx).elim) hlocks g1 g2 g3 (fun t ht9 _ => ⟨by rw [hk9]; decide, by rw [hk9] <;> rfl, by rw [ht9]; exact hCS0.same (fun q h1 _ => k1 q h1), hS1.F ht9⟩) hS1.2.2 (Nat.le_of_ble_eq_true rfl) (Nat.le_of_ble_eq_true rfl)
      · exact absurd b_3 (by decide)
    · refine lv_iload_n hx hb dX6_move_15 rfl (lv_at hl 3 rfl) ?_
      refine xr_call (va_runS (As := [.int p3]) (rest := []) ⟨hx, hb, hml, hown, hts⟩ (c_X6_isArea l D cA p3) (va_cwS 1 hts gX6_move_X6_isArea rfl rfl rfl (by decide +kernel) ⟨Nat.le_of_ble_eq_true rfl, Nat.le_of_ble_eq_true rfl⟩) (xPS hK trivial) rfl rfl hl.1 rfl (lv_room (Nat.le_of_ble_eq_true rfl)) dX6_move_16 ⟨Nat.le_of_ble_eq_true rfl, Nat.le_of_ble_eq_true rfl⟩) ?_
      refine xb_eq (tgt := 26) hx hb dX6_move_19 (by decide) (fun c_4 => ?_) (fun c_4 => ?_)
      · refine lv_iconst (v := 0) hx hb dX6_move_26 (by decide) ?_
        refine xx_check (E0 := eA) (vx_runS (As := [.int 0]) (rest := []) ⟨hx, hb, hml, hown, hts⟩ (c_X6_checkArgument l hst D cA A false 0 (by decide)) (va_cwS 1 hts gX6_move_X6_checkArgument rfl rfl rfl (by decide +kernel) ⟨Nat.le_of_ble_eq_true rfl, Nat.le_of_ble_eq_true rfl⟩) (xPXS hK tK.blind (fun U hU hW => hX.2.at hS (fun _ h => h) hU hW) trivial) rfl rfl hl.1 rfl (lv_room (Nat.le_of_ble_eq_true rfl)) dX6_move_27 ⟨Nat.le_of_ble_eq_true rfl, Nat.le_of_ble_eq_true rfl⟩) hS (fun b_5 ce q9 H1 z1 k1 hS1 g1 g2 g3 => ?_) (fun b_5 => ?_)
        · have hk9 : kMv nC (nI ip1) p2 p3 = 2 := by simp [kMv, b_1, c_2, c_4]
          exact vx_out (fun x hx => (ht x hx).elim) hlocks g1 g2 g3 (fun t ht9 _ => ⟨by rw [hk9]; decide, by rw [hk9] <;> rfl, by rw [ht9]; exact hCS0.same (fun q h1 _ => k1 q h1), hS1.F ht9⟩) hS1.2.2 (Nat.le_of_ble_eq_true rfl) (Nat.le_of_ble_eq_true rfl)
        · exact absurd b_5 (by decide)
      · refine lv_iconst (v := 1) hx hb dX6_move_22 (by decide) ?_
        refine lv_goto (tgt := 27) hx hb dX6_move_23 (by decide) ?_
        refine xx_check (E0 := eA) (vx_runS (As := [.int 1]) (rest := []) ⟨hx, hb, hml, hown, hts⟩ (c_X6_checkArgument l hst D cA A true 1 (by decide)) (va_cwS 1 hts gX6_move_X6_checkArgument rfl rfl rfl (by decide +kernel) ⟨Nat.le_of_ble_eq_true rfl, Nat.le_of_ble_eq_true rfl⟩) (xPXS hK tK.blind (fun U hU hW => hX.2.at hS (fun _ h => h) hU hW) trivial) rfl rfl hl.1 rfl (lv_room (Nat.le_of_ble_eq_true rfl)) dX6_move_27 ⟨Nat.le_of_ble_eq_true rfl, Nat.le_of_ble_eq_true rfl⟩) hS (fun b_6 ce q9 H1 z1 k1 hS1 g1 g2 g3 => ?_) (fun b_6 => ?_)
        · exact absurd b_6 (by decide)
        · have _b_6 := b_6
          refine lv_aload_n hx hb dX6_move_30 rfl (lv_at hl 0 rfl) ?_
          refine x_get (v := .ref (nm 1 0)) hx hb hts h_X6 hown hK hT rfl 0 (by decide) (hts (.fieldLink RX6 10 "ConfigBeacon" "allClients" "Ljava/util/ArrayList;") (by decide +kernel)) (fun _ h => h) rfl dX6_move_31 ?_
          refine lv_iload_n hx hb dX6_move_34 rfl (lv_at hl 1 rfl) ?_
          refine xr_call (va_runV (As := [.int (nI ip1)]) (rest := []) ⟨hx, hb, hml, hown, hts⟩ (c_Jx4a65c_get_915e3 l D cA (nm 1 0) mcC dC nC capC fC ip1 (by omega) hnC hcC (some (nm 2 ip1)) (hfC ip1 (by omega))) (cwV 1 hts gX6_move_Jx4a65c_get_915e3 rfl rfl rfl (by decide +kernel) ⟨Nat.le_of_ble_eq_true rfl, Nat.le_of_ble_eq_true rfl⟩) (xPV hK hOC rfl ⟨hOC, hQC (by omega)⟩) rfl rfl hl.1 rfl (lv_room (Nat.le_of_ble_eq_true rfl)) dX6_move_35 ⟨Nat.le_of_ble_eq_true rfl, Nat.le_of_ble_eq_true rfl⟩) ?_
          refine x_cast hx hb hown (hts (.classLink RX6 55 "ConfigBeacon$Client") (by decide +kernel)) hK (hC ip1 (by omega)) rfl dX6_move_38 ?_
          refine lv_astore (lv' := [(4, .ref (nm 2 ip1)), (0, .ref (nm 0 0)), (1, .int (nI ip1)), (2, .int p2), (3, .int p3)]) hx hb dX6_move_41 hl (by decide) rfl (fun ls hl => ?_)
          refine lv_aload hx hb dX6_move_43 (lv_at hl 0 rfl) ?_
          refine lv_iload_n hx hb dX6_move_45 rfl (lv_at hl 3 rfl) ?_
          have hW1 := (hC ip1 (by omega))
          have hA1 : A (nm 2 ip1) := hl9.1 _ (by rw [hl9.2.2.2.2.2.2.2.1 ip1 (by omega)]; omega)
          refine x_putN hx hb hts h_X0 tyX0 tyX0_ok nmX0 hown hK hW1 hS hA1 rfl 0 (by decide) (va_Nw.use rfl (hK.2.2.1 ("ConfigBeacon", 70, "ConfigBeacon$Client", "region", "I") (by decide))) (fun _ h => h) rfl (tyX0_ok 0 (by decide)) rfl rfl (Nat.le_of_ble_eq_true rfl) dX6_move_46 (fun H locs hW1 z9 q9 hS => ?_)
          have hW1 : xO D (nm 2 ip1) 1 [.int p2, .int (f 1 ip1)] H := hW1
          have hfr : ∀ q : Nat, q < s.heap.size → q ≠ (nm 2 ip1) → H[q]? = s.heap[q]? := fun q _ h2 => q9 q h2
          have hsz : s.heap.size ≤ H.size := hS.1
          refine lv_aload hx hb dX6_move_49 (lv_at hl 0 rfl) ?_
          refine lv_iload_n hx hb dX6_move_51 rfl (lv_at hl 4 rfl) ?_
          refine x_putN hx hb hts h_X0 tyX0 tyX0_ok nmX0 hown hK hW1 hS hA1 rfl 1 (by decide) (va_Nw.use rfl (hK.2.2.1 ("ConfigBeacon", 74, "ConfigBeacon$Client", "group", "I") (by decide))) (fun _ h => h) rfl (tyX0_ok 1 (by decide)) rfl rfl (Nat.le_of_ble_eq_true rfl) dX6_move_52 (fun H locs hW1 z9 q9 hS => ?_)
          have hW1 : xO D (nm 2 ip1) 1 [.int p2, .int p3] H := hW1
          have hfr : ∀ q : Nat, q < s.heap.size → q ≠ (nm 2 ip1) → H[q]? = s.heap[q]? := fun q h1 h2 => (q9 q h2).trans (hfr q h1 h2)
          have hsz : s.heap.size ≤ H.size := hS.1
          refine vx_ret ?_
          exact xw_vret hx hb hr hlocks hS ⟨(by simp [kMv, b_1, c_2, c_4]), rfl, (by show CS D cA A (nm 12 0) (nm 0 0) (mup (mup f 0 (ix (nI ip1)) p2) 1 (ix (nI ip1)) p3) nC nL nV H; rw [ix_nI (by omega)]; exact mv_CS hV hl9 hIQ hip1 b1 hfr hW1)⟩ (Nat.le_of_ble_eq_true rfl) (Nat.le_of_ble_eq_true rfl) dX6_move_55
set_option maxHeartbeats 4000000 in
set_option maxRecDepth 100000 in
theorem c_X6_rank (l : Launch) (hst : l.stackTraces = false) (D : va_G) (cA : Nat → ClassId) (lab : Nat → Nat) (nm : Nat → Nat → Nat) (rf : Nat → Nat → Option Nat) (f : Nat → Nat → Int32) (nC nL nV : Nat) (hi : CRi f nC nL nV) (A : Nat → Prop) (hl9 : CRl A lab nm rf nC nL) (H9 : Heap) (p1 : Int32) (p2 : Int32) : vx_Met l yX6_rank wsX6_rank (rmK 41 3 18) (xPX D cA (fun U => pK A (nm 12 0) U) [.ref (nm 0 0), .int p1, .int p2] (fun H => H = H9 ∧ CRv D cA lab nm rf f nC nL nV H ∧ IQ0 D cA nm H)) (xW (pJ (kRk nL p1 p2) (some (.int (f 3 (ix p1)))) (CS D cA A (nm 12 0) (nm 0 0) ((sa (mS f) 3 (ix p1) p2).2.1) nC nL nV)) A) (xT (kRk nL p1 p2) (fun k => (if k = 1 then eI else eA)) (CS D cA A (nm 12 0) (nm 0 0) f nC nL nV) A) 3 18 A := by
  refine vx_ofW (cc := cX6_rank) (maxL := 5) (ret := (some .int)) (by decide) rfl ?_
  intro p e s m args below meth c s₁ B hml ht hv
  obtain ⟨rfl, ⟨hK, hX⟩, hI⟩ := hv
  have hx := B.exec
  have hb := B.bytes
  have hr := B.returns
  have hts := atoms_spec (ws := wsX6_rank) B.pre
  have hown : s.vm.findClass RX6 = some m.cls := findClass_of_methodNamed B.named
  have hlocks := B.notSynchronized
  have hl := lv_entry ([.ref (nm 0 0), .int p1, .int p2]) (n := 5) (Nat.le_of_ble_eq_true rfl)
  rw [lg_entry_eq]
  generalize (lg_sl ([.ref (nm 0 0), .int p1, .int p2]) ++ List.replicate (5 - (lg_sl ([.ref (nm 0 0), .int p1, .int p2])).length) Slot.unset).toArray = ls at hl ⊢
  have hl : lv_has ls 5 [(0, .ref (nm 0 0)), (1, .int p1), (2, .int p2)] := hl
  have h_X4 : ∀ w ∈ wsX40, w ∈ wsX6_rank := fun _ h => List.mem_cons_of_mem _ (List.mem_append_left _ (List.mem_append_left _ (List.mem_append_left _ (List.mem_append_right _ h))))
  have h_X6 : ∀ w ∈ wsX60, w ∈ wsX6_rank := fun _ h => List.mem_cons_of_mem _ (List.mem_append_left _ (List.mem_append_left _ (List.mem_append_left _ (List.mem_append_left _ (List.mem_append_right _ h)))))
  have h_Jx4a65c : ∀ w ∈ wsJx4a65c0, w ∈ wsX6_rank := fun _ h => List.mem_cons_of_mem _ (List.mem_append_left _ (List.mem_append_left _ (List.mem_append_right _ h)))
  obtain ⟨hH9, hI, hIQ⟩ := hI
  subst hH9
  have hV := hI
  have hi0 := hi
  obtain ⟨hT, ⟨mcC, dC, capC, fC, hOC, hQC, hnC, hcC, hfC, -⟩, ⟨mcL, dL, capL, fL, hOL, hQL, hnL, hcL, hfL, -⟩, ⟨mcV, dV, capV, fV, hOV, hQV, hnV, hcV, hfV, -⟩, hC, hL, hHo, hRo, hCh, hRl, hEn⟩ := hI
  obtain ⟨b1, b2, b3, iSel, iGd, iCur, iZero, iLk, iLkA, iLkB⟩ := hi
  have hS : va_S A s.heap s.heap [] := va_S.rf
  have hCS0 : CS D cA A (nm 12 0) (nm 0 0) f nC nL nV s.heap := ⟨lab, nm, rf, hV, hl9, hIQ, rfl, rfl⟩
  refine lv_aload_n hx hb dX6_rank_0 rfl (lv_at hl 0 rfl) ?_
  refine lv_iload_n hx hb dX6_rank_1 rfl (lv_at hl 1 rfl) ?_
  refine xr_call (va_runV (As := [.int p1]) (rest := []) ⟨hx, hb, hml, hown, hts⟩ (c_X6_isLayer l D cA lab nm rf f nC nL nV (⟨b1, b2, b3, iSel, iGd, iCur, iZero, iLk, iLkA, iLkB⟩) p1) (cwV 1 hts gX6_rank_X6_isLayer rfl rfl rfl (by decide +kernel) ⟨Nat.le_of_ble_eq_true rfl, Nat.le_of_ble_eq_true rfl⟩) (xPV hK hT rfl hV) rfl rfl hl.1 rfl (lv_room (Nat.le_of_ble_eq_true rfl)) dX6_rank_2 ⟨Nat.le_of_ble_eq_true rfl, Nat.le_of_ble_eq_true rfl⟩) ?_
  refine xx_check (E0 := eI) (vx_runS (As := [.int (bI (okN nL p1))]) (rest := []) ⟨hx, hb, hml, hown, hts⟩ (c_X6_checkThere l hst D cA A (okN nL p1) (bI (okN nL p1)) rfl) (va_cwS 1 hts gX6_rank_X6_checkThere rfl rfl rfl (by decide +kernel) ⟨Nat.le_of_ble_eq_true rfl, Nat.le_of_ble_eq_true rfl⟩) (xPXS hK tK.blind (fun U hU hW => hX.2.at hS (fun _ h => h) hU hW) trivial) rfl rfl hl.1 rfl (lv_room (Nat.le_of_ble_eq_true rfl)) dX6_rank_5 ⟨Nat.le_of_ble_eq_true rfl, Nat.le_of_ble_eq_true rfl⟩) hS (fun b_1 ce q9 H1 z1 k1 hS1 g1 g2 g3 => ?_) (fun b_1 => ?_)
  · have hk9 : kRk nL p1 p2 = 1 := by simp [kRk, b_1]
    exact vx_out (fun x hx => (ht x hx).elim) hlocks g1 g2 g3 (fun t ht9 _ => ⟨by rw [hk9]; decide, by rw [hk9] <;> rfl, by rw [ht9]; exact hCS0.same (fun q h1 _ => k1 q h1), hS1.F ht9⟩) hS1.2.2 (Nat.le_of_ble_eq_true rfl) (Nat.le_of_ble_eq_true rfl)
  · have _b_1 := b_1
    obtain ⟨ip1, hip1, ep1⟩ := okN_of (n := nL) (v := p1) (by omega) (by have h9 := b_1; (try simp only [Bool.and_eq_true] at h9); simp [h9])
    subst ep1
    refine lv_iload_n hx hb dX6_rank_8 rfl (lv_at hl 2 rfl) ?_
    refine xr_call (va_runS (As := [.int p2]) (rest := []) ⟨hx, hb, hml, hown, hts⟩ (c_X6_isPrecedence l D cA p2) (va_cwS 1 hts gX6_rank_X6_isPrecedence rfl rfl rfl (by decide +kernel) ⟨Nat.le_of_ble_eq_true rfl, Nat.le_of_ble_eq_true rfl⟩) (xPS hK trivial) rfl rfl hl.1 rfl (lv_room (Nat.le_of_ble_eq_true rfl)) dX6_rank_9 ⟨Nat.le_of_ble_eq_true rfl, Nat.le_of_ble_eq_true rfl⟩) ?_
    refine xx_check (E0 := eA) (vx_runS (As := [.int (bI (inB p2 0 99))]) (rest := []) ⟨hx, hb, hml, hown, hts⟩ (c_X6_checkArgument l hst D cA A (inB p2 0 99) (bI (inB p2 0 99)) rfl) (va_cwS 1 hts gX6_rank_X6_checkArgument rfl rfl rfl (by decide +kernel) ⟨Nat.le_of_ble_eq_true rfl, Nat.le_of_ble_eq_true rfl⟩) (xPXS hK tK.blind (fun U hU hW => hX.2.at hS (fun _ h => h) hU hW) trivial) rfl rfl hl.1 rfl (lv_room (Nat.le_of_ble_eq_true rfl)) dX6_rank_12 ⟨Nat.le_of_ble_eq_true rfl, Nat.le_of_ble_eq_true rfl⟩) hS (fun b_2 ce q9 H1 z1 k1 hS1 g1 g2 g3 => ?_) (fun b_2 => ?_)
    · have hk9 : kRk nL (nI ip1) p2 = 2 := by simp [kRk, b_1, b_2]
      exact vx_out (fun x hx => (ht x hx).elim) hlocks g1 g2 g3 (fun t ht9 _ => ⟨by rw [hk9]; decide, by rw [hk9] <;> rfl, by rw [ht9]; exact hCS0.same (fun q h1 _ => k1 q h1), hS1.F ht9⟩) hS1.2.2 (Nat.le_of_ble_eq_true rfl) (Nat.le_of_ble_eq_true rfl)
    · have _b_2 := b_2
      refine lv_aload_n hx hb dX6_rank_15 rfl (lv_at hl 0 rfl) ?_
      refine x_get (v := .ref (nm 1 1)) hx hb hts h_X6 hown hK hT rfl 1 (by decide) (hts (.fieldLink RX6 16 "ConfigBeacon" "allLayers" "Ljava/util/ArrayList;") (by decide +kernel)) (fun _ h => h) rfl dX6_rank_16 ?_
      refine lv_iload_n hx hb dX6_rank_19 rfl (lv_at hl 1 rfl) ?_
      refine xr_call (va_runV (As := [.int (nI ip1)]) (rest := []) ⟨hx, hb, hml, hown, hts⟩ (c_Jx4a65c_get_915e3 l D cA (nm 1 1) mcL dL nL capL fL ip1 (by omega) hnL hcL (some (nm 3 ip1)) (hfL ip1 (by omega))) (cwV 1 hts gX6_rank_Jx4a65c_get_915e3 rfl rfl rfl (by decide +kernel) ⟨Nat.le_of_ble_eq_true rfl, Nat.le_of_ble_eq_true rfl⟩) (xPV hK hOL rfl ⟨hOL, hQL (by omega)⟩) rfl rfl hl.1 rfl (lv_room (Nat.le_of_ble_eq_true rfl)) dX6_rank_20 ⟨Nat.le_of_ble_eq_true rfl, Nat.le_of_ble_eq_true rfl⟩) ?_
      refine x_cast hx hb hown (hts (.classLink RX6 84 "ConfigBeacon$Layer") (by decide +kernel)) hK (hL ip1 (by omega)) rfl dX6_rank_23 ?_
      refine lv_astore_n (lv' := [(3, .ref (nm 3 ip1)), (0, .ref (nm 0 0)), (1, .int (nI ip1)), (2, .int p2)]) hx hb dX6_rank_26 rfl hl (by decide) rfl (fun ls hl => ?_)
      refine lv_aload_n hx hb dX6_rank_27 rfl (lv_at hl 0 rfl) ?_
      refine x_getN (v := .int (f 3 ip1)) hx hb hts h_X4 hown hK (hL ip1 (by omega)) rfl 3 (by decide) (va_Nw.use rfl (hK.2.2.1 ("ConfigBeacon", 92, "ConfigBeacon$Layer", "precedence", "I") (by decide))) (fun _ h => h) rfl dX6_rank_28 ?_
      refine lv_istore (lv' := [(4, .int (f 3 ip1)), (3, .ref (nm 3 ip1)), (0, .ref (nm 0 0)), (1, .int (nI ip1)), (2, .int p2)]) hx hb dX6_rank_31 hl (by decide) rfl (fun ls hl => ?_)
      refine lv_aload_n hx hb dX6_rank_33 rfl (lv_at hl 1 rfl) ?_
      refine lv_iload_n hx hb dX6_rank_34 rfl (lv_at hl 4 rfl) ?_
      have hW1 := (hL ip1 (by omega))
      have hA1 : A (nm 3 ip1) := hl9.1 _ (by rw [(hl9.2.2.2.2.2.2.2.2.1 ip1 (by omega)).1]; omega)
      refine x_putN hx hb hts h_X4 tyX4 tyX4_ok nmX4 hown hK hW1 hS hA1 rfl 3 (by decide) (va_Nw.use rfl (hK.2.2.1 ("ConfigBeacon", 92, "ConfigBeacon$Layer", "precedence", "I") (by decide))) (fun _ h => h) rfl (tyX4_ok 3 (by decide)) rfl rfl (Nat.le_of_ble_eq_true rfl) dX6_rank_35 (fun H locs hW1 z9 q9 hS => ?_)
      have hW1 : xO D (nm 3 ip1) 5 [.int (nI ip1), .int (f 4 ip1), .int (f 5 ip1), .int p2, .ref (nm 4 ip1), .ref (nm 5 ip1), .ref (nm 6 ip1)] H := hW1
      have hfr : ∀ q : Nat, q < s.heap.size → q ≠ (nm 3 ip1) → H[q]? = s.heap[q]? := fun q _ h2 => q9 q h2
      have hsz : s.heap.size ≤ H.size := hS.1
      refine lv_iload hx hb dX6_rank_38 (lv_at hl 0 rfl) ?_
      refine vx_ret ?_
      exact xw_iret hx hb hr hlocks hS ⟨(by simp [kRk, b_1, b_2]), (by rw [ix_nI (by omega)]), (by show CS D cA A (nm 12 0) (nm 0 0) (mup f 3 (ix (nI ip1)) p2) nC nL nV H; rw [ix_nI (by omega)]; exact rk_CS hV hl9 hIQ hip1 b2 b1 hfr hW1)⟩ (Nat.le_of_ble_eq_true rfl) (Nat.le_of_ble_eq_true rfl) dX6_rank_40
