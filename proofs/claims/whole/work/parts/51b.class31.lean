set_option maxHeartbeats 4000000 in
set_option maxRecDepth 100000 in
theorem c_X6_set (l : Launch) (hst : l.stackTraces = false) (D : va_G) (cA : Nat → ClassId) (lab : Nat → Nat) (nm : Nat → Nat → Nat) (rf : Nat → Nat → Option Nat) (f : Nat → Nat → Int32) (nC nL nV : Nat) (hi : CRi f nC nL nV) (A : Nat → Prop) (hl9 : CRl A lab nm rf nC nL) (H9 : Heap) (p1 : Int32) (p2 : Int32) (p3 : Int32) (p4 : Int32) (hAn : ∀ q, H9.size ≤ q → A q) : vx_Met l yX6_set wsX6_set (rmK 41 8 1160) (xPX D cA (fun U => pK A (nm 12 0) U) [.ref (nm 0 0), .int p1, .int p2, .int p3, .int p4] (fun H => H = H9 ∧ CRv D cA lab nm rf f nC nL nV H ∧ IQ0 D cA nm H)) (xW (pJ (wrF (mS f) nL p1 p2 (okB p3) p4 false) (some (.int (nI (putV (mS f) nV (cl p1 p2) (enc p3 (-1) (-1)))))) (CS D cA A (nm 12 0) (nm 0 0) ((putS (mS f) nV (cl p1 p2) (enc p3 (-1) (-1))).2.1) nC nL (putV (mS f) nV (cl p1 p2) (enc p3 (-1) (-1))))) A) (xT (wrF (mS f) nL p1 p2 (okB p3) p4 false) (fun k => (if k = 1 then eI else (if k = 2 then eA else eS))) (CS D cA A (nm 12 0) (nm 0 0) f nC nL nV) A) 8 1160 A := by
  refine vx_ofW (cc := cX6_set) (maxL := 5) (ret := (some .int)) (by decide) rfl ?_
  intro p e s m args below meth c s₁ B hml ht hv
  obtain ⟨rfl, ⟨hK, hX⟩, hI⟩ := hv
  have hx := B.exec
  have hb := B.bytes
  have hr := B.returns
  have hts := atoms_spec (ws := wsX6_set) B.pre
  have hown : s.vm.findClass RX6 = some m.cls := findClass_of_methodNamed B.named
  have hlocks := B.notSynchronized
  have hl := lv_entry ([.ref (nm 0 0), .int p1, .int p2, .int p3, .int p4]) (n := 5) (Nat.le_of_ble_eq_true rfl)
  rw [lg_entry_eq]
  generalize (lg_sl ([.ref (nm 0 0), .int p1, .int p2, .int p3, .int p4]) ++ List.replicate (5 - (lg_sl ([.ref (nm 0 0), .int p1, .int p2, .int p3, .int p4])).length) Slot.unset).toArray = ls at hl ⊢
  have hl : lv_has ls 5 [(0, .ref (nm 0 0)), (1, .int p1), (2, .int p2), (3, .int p3), (4, .int p4)] := hl
  have h_X1 : ∀ w ∈ wsX10, w ∈ wsX6_set := fun _ h => List.mem_cons_of_mem _ (List.mem_append_left _ (List.mem_append_left _ (List.mem_append_left _ (List.mem_append_right _ h))))
  have h_X2 : ∀ w ∈ wsX20, w ∈ wsX6_set := fun _ h => List.mem_cons_of_mem _ (List.mem_append_left _ (List.mem_append_left _ (List.mem_append_left _ (List.mem_append_left _ (List.mem_append_left _ (List.mem_append_left _ (List.mem_append_left _ (List.mem_append_right _ h))))))))
  have h_X4 : ∀ w ∈ wsX40, w ∈ wsX6_set := fun _ h => List.mem_cons_of_mem _ (List.mem_append_left _ (List.mem_append_left _ (List.mem_append_left _ (List.mem_append_left _ (List.mem_append_right _ h)))))
  have h_X6 : ∀ w ∈ wsX60, w ∈ wsX6_set := fun _ h => List.mem_cons_of_mem _ (List.mem_append_left _ (List.mem_append_left _ (List.mem_append_left _ (List.mem_append_left _ (List.mem_append_left _ (List.mem_append_left _ (List.mem_append_right _ h)))))))
  have h_Jx4a65c : ∀ w ∈ wsJx4a65c0, w ∈ wsX6_set := fun _ h => List.mem_cons_of_mem _ (List.mem_append_left _ (List.mem_append_left _ (List.mem_append_left _ (List.mem_append_left _ (List.mem_append_left _ (List.mem_append_right _ h))))))
  obtain ⟨hH9, hI, hIQ⟩ := hI
  subst hH9
  have hV := hI
  have hi0 := hi
  obtain ⟨hT, ⟨mcC, dC, capC, fC, hOC, hQC, hnC, hcC, hfC, -⟩, ⟨mcL, dL, capL, fL, hOL, hQL, hnL, hcL, hfL, -⟩, ⟨mcV, dV, capV, fV, hOV, hQV, hnV, hcV, hfV, -⟩, hC, hL, hHo, hRo, hCh, hRl, hEn⟩ := hI
  obtain ⟨b1, b2, b3, iSel, iGd, iCur, iZero, iLk, iLkA, iLkB⟩ := hi
  have hS : va_S A s.heap s.heap [] := va_S.rf
  have hCS0 : CS D cA A (nm 12 0) (nm 0 0) f nC nL nV s.heap := ⟨lab, nm, rf, hV, hl9, hIQ, rfl, rfl⟩
  refine lv_aload_n hx hb dX6_set_0 rfl (lv_at hl 0 rfl) ?_
  refine lv_iload_n hx hb dX6_set_1 rfl (lv_at hl 1 rfl) ?_
  refine lv_iload_n hx hb dX6_set_2 rfl (lv_at hl 2 rfl) ?_
  refine xr_call (va_runV (As := [.int p1, .int p2]) (rest := []) ⟨hx, hb, hml, hown, hts⟩ (c_X6_isCell l D cA lab nm rf f nC nL nV (⟨b1, b2, b3, iSel, iGd, iCur, iZero, iLk, iLkA, iLkB⟩) p1 p2) (cwV 2 hts gX6_set_X6_isCell rfl rfl rfl (by decide +kernel) ⟨Nat.le_of_ble_eq_true rfl, Nat.le_of_ble_eq_true rfl⟩) (xPV hK hT rfl hV) rfl rfl hl.1 rfl (lv_room (Nat.le_of_ble_eq_true rfl)) dX6_set_3 ⟨Nat.le_of_ble_eq_true rfl, Nat.le_of_ble_eq_true rfl⟩) ?_
  refine xx_check (E0 := eI) (vx_runS (As := [.int (bI (okN nL p1 && okS p2))]) (rest := []) ⟨hx, hb, hml, hown, hts⟩ (c_X6_checkThere l hst D cA A (okN nL p1 && okS p2) (bI (okN nL p1 && okS p2)) rfl) (va_cwS 1 hts gX6_set_X6_checkThere rfl rfl rfl (by decide +kernel) ⟨Nat.le_of_ble_eq_true rfl, Nat.le_of_ble_eq_true rfl⟩) (xPXS hK tK.blind (fun U hU hW => hX.2.at hS (fun _ h => h) hU hW) trivial) rfl rfl hl.1 rfl (lv_room (Nat.le_of_ble_eq_true rfl)) dX6_set_6 ⟨Nat.le_of_ble_eq_true rfl, Nat.le_of_ble_eq_true rfl⟩) hS (fun b_1 ce q9 H1 z1 k1 hS1 g1 g2 g3 => ?_) (fun b_1 => ?_)
  · have hk9 : wrF (mS f) nL p1 p2 (okB p3) p4 false = 1 := by simp [wrF, mS, b_1]
    exact vx_out (fun x hx => (ht x hx).elim) hlocks g1 g2 g3 (fun t ht9 _ => ⟨by rw [hk9]; decide, by rw [hk9] <;> rfl, by rw [ht9]; exact hCS0.same (fun q h1 _ => k1 q h1), hS1.F ht9⟩) hS1.2.2 (Nat.le_of_ble_eq_true rfl) (Nat.le_of_ble_eq_true rfl)
  · have _b_1 := b_1
    obtain ⟨ip1, hip1, ep1⟩ := okN_of (n := nL) (v := p1) (by omega) (by have h9 := b_1; (try simp only [Bool.and_eq_true] at h9); simp [h9])
    subst ep1
    obtain ⟨ip2, hip2, ep2⟩ := okS_of (v := p2) (by have h9 := b_1; (try simp only [Bool.and_eq_true] at h9); simp [h9])
    subst ep2
    refine lv_iload_n hx hb dX6_set_9 rfl (lv_at hl 3 rfl) ?_
    refine xr_call (va_runS (As := [.int p3]) (rest := []) ⟨hx, hb, hml, hown, hts⟩ (c_X6_isNumber l D cA p3) (va_cwS 1 hts gX6_set_X6_isNumber rfl rfl rfl (by decide +kernel) ⟨Nat.le_of_ble_eq_true rfl, Nat.le_of_ble_eq_true rfl⟩) (xPS hK trivial) rfl rfl hl.1 rfl (lv_room (Nat.le_of_ble_eq_true rfl)) dX6_set_10 ⟨Nat.le_of_ble_eq_true rfl, Nat.le_of_ble_eq_true rfl⟩) ?_
    refine xb_eq (tgt := 28) hx hb dX6_set_13 (by decide) (fun c_2 => ?_) (fun c_2 => ?_)
    · refine lv_iconst (v := 0) hx hb dX6_set_28 (by decide) ?_
      refine xx_check (E0 := eA) (vx_runS (As := [.int 0]) (rest := []) ⟨hx, hb, hml, hown, hts⟩ (c_X6_checkArgument l hst D cA A false 0 (by decide)) (va_cwS 1 hts gX6_set_X6_checkArgument rfl rfl rfl (by decide +kernel) ⟨Nat.le_of_ble_eq_true rfl, Nat.le_of_ble_eq_true rfl⟩) (xPXS hK tK.blind (fun U hU hW => hX.2.at hS (fun _ h => h) hU hW) trivial) rfl rfl hl.1 rfl (lv_room (Nat.le_of_ble_eq_true rfl)) dX6_set_29 ⟨Nat.le_of_ble_eq_true rfl, Nat.le_of_ble_eq_true rfl⟩) hS (fun b_3 ce q9 H1 z1 k1 hS1 g1 g2 g3 => ?_) (fun b_3 => ?_)
      · have hk9 : wrF (mS f) nL (nI ip1) (nI ip2) (okB p3) p4 false = 2 := by simp [wrF, mS, b_1, c_2]
        exact vx_out (fun x hx => (ht x hx).elim) hlocks g1 g2 g3 (fun t ht9 _ => ⟨by rw [hk9]; decide, by rw [hk9] <;> rfl, by rw [ht9]; exact hCS0.same (fun q h1 _ => k1 q h1), hS1.F ht9⟩) hS1.2.2 (Nat.le_of_ble_eq_true rfl) (Nat.le_of_ble_eq_true rfl)
      · exact absurd b_3 (by decide)
    · refine lv_iload hx hb dX6_set_16 (lv_at hl 4 rfl) ?_
      refine xr_call (va_runS (As := [.int p4]) (rest := []) ⟨hx, hb, hml, hown, hts⟩ (c_X6_isOwner l D cA p4) (va_cwS 1 hts gX6_set_X6_isOwner rfl rfl rfl (by decide +kernel) ⟨Nat.le_of_ble_eq_true rfl, Nat.le_of_ble_eq_true rfl⟩) (xPS hK trivial) rfl rfl hl.1 rfl (lv_room (Nat.le_of_ble_eq_true rfl)) dX6_set_18 ⟨Nat.le_of_ble_eq_true rfl, Nat.le_of_ble_eq_true rfl⟩) ?_
      refine xb_eq (tgt := 28) hx hb dX6_set_21 (by decide) (fun c_4 => ?_) (fun c_4 => ?_)
      · refine lv_iconst (v := 0) hx hb dX6_set_28 (by decide) ?_
        refine xx_check (E0 := eA) (vx_runS (As := [.int 0]) (rest := []) ⟨hx, hb, hml, hown, hts⟩ (c_X6_checkArgument l hst D cA A false 0 (by decide)) (va_cwS 1 hts gX6_set_X6_checkArgument rfl rfl rfl (by decide +kernel) ⟨Nat.le_of_ble_eq_true rfl, Nat.le_of_ble_eq_true rfl⟩) (xPXS hK tK.blind (fun U hU hW => hX.2.at hS (fun _ h => h) hU hW) trivial) rfl rfl hl.1 rfl (lv_room (Nat.le_of_ble_eq_true rfl)) dX6_set_29 ⟨Nat.le_of_ble_eq_true rfl, Nat.le_of_ble_eq_true rfl⟩) hS (fun b_5 ce q9 H1 z1 k1 hS1 g1 g2 g3 => ?_) (fun b_5 => ?_)
        · have hk9 : wrF (mS f) nL (nI ip1) (nI ip2) (okB p3) p4 false = 2 := by simp [wrF, mS, b_1, c_2, c_4]
          exact vx_out (fun x hx => (ht x hx).elim) hlocks g1 g2 g3 (fun t ht9 _ => ⟨by rw [hk9]; decide, by rw [hk9] <;> rfl, by rw [ht9]; exact hCS0.same (fun q h1 _ => k1 q h1), hS1.F ht9⟩) hS1.2.2 (Nat.le_of_ble_eq_true rfl) (Nat.le_of_ble_eq_true rfl)
        · exact absurd b_5 (by decide)
      · refine lv_iconst (v := 1) hx hb dX6_set_24 (by decide) ?_
        refine lv_goto (tgt := 29) hx hb dX6_set_25 (by decide) ?_
        refine xx_check (E0 := eA) (vx_runS (As := [.int 1]) (rest := []) ⟨hx, hb, hml, hown, hts⟩ (c_X6_checkArgument l hst D cA A true 1 (by decide)) (va_cwS 1 hts gX6_set_X6_checkArgument rfl rfl rfl (by decide +kernel) ⟨Nat.le_of_ble_eq_true rfl, Nat.le_of_ble_eq_true rfl⟩) (xPXS hK tK.blind (fun U hU hW => hX.2.at hS (fun _ h => h) hU hW) trivial) rfl rfl hl.1 rfl (lv_room (Nat.le_of_ble_eq_true rfl)) dX6_set_29 ⟨Nat.le_of_ble_eq_true rfl, Nat.le_of_ble_eq_true rfl⟩) hS (fun b_6 ce q9 H1 z1 k1 hS1 g1 g2 g3 => ?_) (fun b_6 => ?_)
        · exact absurd b_6 (by decide)
        · have _b_6 := b_6
          refine lv_aload_n hx hb dX6_set_32 rfl (lv_at hl 0 rfl) ?_
          refine lv_iload_n hx hb dX6_set_33 rfl (lv_at hl 1 rfl) ?_
          refine lv_iload_n hx hb dX6_set_34 rfl (lv_at hl 2 rfl) ?_
          refine lv_iload hx hb dX6_set_35 (lv_at hl 4 rfl) ?_
          refine xr_call (va_runV (As := [.int (nI ip1), .int (nI ip2), .int p4]) (rest := []) ⟨hx, hb, hml, hown, hts⟩ (c_X6_isFreeFor l D cA lab nm rf f nC nL nV hi0 ip1 ip2 p4 (by omega) (by omega)) (cwV 3 hts gX6_set_X6_isFreeFor rfl rfl rfl (by decide +kernel) ⟨Nat.le_of_ble_eq_true rfl, Nat.le_of_ble_eq_true rfl⟩) (xPV hK hT rfl hV) rfl rfl hl.1 rfl (lv_room (Nat.le_of_ble_eq_true rfl)) dX6_set_37 ⟨Nat.le_of_ble_eq_true rfl, Nat.le_of_ble_eq_true rfl⟩) ?_
          refine xx_check (E0 := eS) (vx_runS (As := [.int (bI (frF f ip1 ip2 p4))]) (rest := []) ⟨hx, hb, hml, hown, hts⟩ (c_X6_checkState l hst D cA A (frF f ip1 ip2 p4) (bI (frF f ip1 ip2 p4)) rfl) (va_cwS 1 hts gX6_set_X6_checkState rfl rfl rfl (by decide +kernel) ⟨Nat.le_of_ble_eq_true rfl, Nat.le_of_ble_eq_true rfl⟩) (xPXS hK tK.blind (fun U hU hW => hX.2.at hS (fun _ h => h) hU hW) trivial) rfl rfl hl.1 rfl (lv_room (Nat.le_of_ble_eq_true rfl)) dX6_set_40 ⟨Nat.le_of_ble_eq_true rfl, Nat.le_of_ble_eq_true rfl⟩) hS (fun b_7 ce q9 H1 z1 k1 hS1 g1 g2 g3 => ?_) (fun b_7 => ?_)
          · have hk9 : wrF (mS f) nL (nI ip1) (nI ip2) (okB p3) p4 false = 3 := by rw [wr_ch hip1 b2 hip2 iLk c_2 c_4, b_7]; rfl
            exact vx_out (fun x hx => (ht x hx).elim) hlocks g1 g2 g3 (fun t ht9 _ => ⟨by rw [hk9]; decide, by rw [hk9] <;> rfl, by rw [ht9]; exact hCS0.same (fun q h1 _ => k1 q h1), hS1.F ht9⟩) hS1.2.2 (Nat.le_of_ble_eq_true rfl) (Nat.le_of_ble_eq_true rfl)
          · have _b_7 := b_7
            refine lv_aload_n hx hb dX6_set_43 rfl (lv_at hl 0 rfl) ?_
            refine lv_iload_n hx hb dX6_set_44 rfl (lv_at hl 1 rfl) ?_
            refine lv_iload_n hx hb dX6_set_45 rfl (lv_at hl 2 rfl) ?_
            have hsz0 := hS.1
            have hold : ∀ x : Nat, x < s.heap.size → s.heap[x]? = s.heap[x]? := fun _ _ => rfl
            refine xn_o (ci := 3) hx hb hts h_X2 tyX2 tyX2_ok hown (hts (.classLink RX6 122 RX2) (by decide +kernel)) (hts (.instantiable RX2 3) (by decide +kernel)) (hts (.initialized RX2) (by decide +kernel)) hK hS rfl [.int 0, .int 0, .int 0] (fun j hj => by rcases (show j = 0 ∨ j = 1 ∨ j = 2 from by omega) with rfl | rfl | rfl <;> rfl) (Nat.le_of_ble_eq_true rfl) (Nat.le_of_ble_eq_true rfl) dX6_set_46 (fun q1 H hq1 gq1 hN1 zN oN hS => ?_)
            have hAq1 : A q1 := hAn _ gq1
            have hold : ∀ x : Nat, x < s.heap.size → H[x]? = s.heap[x]? := fun x hx => (oN x (Nat.lt_of_lt_of_le hx hsz0)).trans (hold x hx)
            refine lv_dup hx hb dX6_set_49 rfl ?_
            refine lv_iload_n hx hb dX6_set_50 rfl (lv_at hl 3 rfl) ?_
            refine lv_iconst (v := (-1)) hx hb dX6_set_51 (by decide) ?_
            refine lv_iconst (v := (-1)) hx hb dX6_set_52 (by decide) ?_
            have hsz0 := hS.1
            refine xw_calln (va_runI (As := [.int p3, .int (-1), .int (-1)]) (rest := [.ref q1, .int (nI ip2), .int (nI ip1), .ref (nm 0 0)]) ⟨hx, hb, hml, hown, hts⟩ (c_X2_init l D cA q1 H p3 (-1) (-1)) (cwI 3 hts gX6_set_X2_init rfl rfl rfl (hts (.initialized RX2) (by decide +kernel)) (hts (.methodLink RX6 124 yX2_init) (by decide +kernel)) (hts (.instanceMethod yX2_init) (by decide +kernel)) rfl (by decide +kernel) ⟨Nat.le_of_ble_eq_true rfl, Nat.le_of_ble_eq_true rfl⟩) (xPS hK ⟨rfl, hN1⟩) rfl rfl hl.1 rfl (lv_room (Nat.le_of_ble_eq_true rfl)) dX6_set_53 ⟨Nat.le_of_ble_eq_true rfl, Nat.le_of_ble_eq_true rfl⟩) hS (fun z _ h => by rw [show z = q1 from h]; exact hAq1) (fun z h => by rw [show z = q1 from h]; exact hAq1) (fun H locs hN1 z9 q9 hS => ?_)
            have hold : ∀ x : Nat, x < s.heap.size → H[x]? = s.heap[x]? := fun x hx => (q9 x (Nat.lt_of_lt_of_le hx hsz0) (show ¬ x = q1 from by omega)).trans (hold x hx)
            have hsz := hS.1
            have hs9 : ∀ x, x < s.heap.size → lu lab q1 10 x = lab x := fun x hx => lu_un (by omega)
            obtain ⟨hV2, hIQ2⟩ := (CRv.keptX (lab' := lu lab q1 10) hV hl9 hIQ (fun _ => False) id (fun x h1 _ _ => hold x h1) hs9).all
            have hl2 := hl9.relab hV hIQ (lu_A hl9.1 hAq1) hs9
            have hE9 : eR D (some q1) (enc p3 (-1) (-1)) H := ⟨p3, (-1), (-1), rfl, ⟨c_2, Or.inl ⟨rfl, rfl⟩⟩, hN1⟩
            refine xw_calln (va_runV (As := [.int (nI ip1), .int (nI ip2), .ref q1]) (rest := []) ⟨hx, hb, hml, hown, hts⟩ (c_X6_enter_s l D cA (lu lab q1 10) nm _ f nC nL nV hi0 A hl2 H (fun x h => hAn x (Nat.le_trans hsz h)) ip1 ip2 (enc p3 (-1) (-1)) hip1 hip2 q1 lu_at) (cwV 3 hts gX6_set_X6_enter rfl rfl rfl (by decide +kernel) ⟨Nat.le_of_ble_eq_true rfl, Nat.le_of_ble_eq_true rfl⟩) (xPXV hK zK.blind (fun U hU hW => hX.1.at hS (fun _ h => h) hU hW) hV2.1 rfl ⟨rfl, hV2, hIQ2, hE9⟩) rfl rfl hl.1 rfl (lv_room (Nat.le_of_ble_eq_true rfl)) dX6_set_56 ⟨Nat.le_of_ble_eq_true rfl, Nat.le_of_ble_eq_true rfl⟩) hS (fun _ _ h => h) (fun _ h => h) (fun H9 locs hJ z9 q9 hS => ?_)
            rw [ex_cnt (show (16 * ip1 + ip2) < 16 * nL by omega)] at hJ
            by_cases he : f 7 (16 * ip1 + ip2) = enc p3 (-1) (-1)
            · rw [if_pos he, if_pos rfl] at hJ
              obtain ⟨lab2, nm2, rf2, hV3, hl3, hIQ3, hz3, ho3⟩ := hJ
              have hT3 := hV3.1
              obtain ⟨mc3, d3, cap3, f3, hO3, -⟩ := hV3.2.2.2.1
              rw [ho3] at hT3
              refine lv_aload_n hx hb dX6_set_59 rfl (lv_at hl 0 rfl) ?_
              refine xr_call (va_runV (As := []) (rest := []) ⟨hx, hb, hml, hown, hts⟩ (c_X6_versionR l D cA (nm 0 0) (nm2 1 0) (nm2 1 1) (nm2 1 2) (nm2 9 0) (nm2 7 nV) d3 nV mc3) (cwV 0 hts gX6_set_X6_version rfl rfl rfl (by decide +kernel) ⟨Nat.le_of_ble_eq_true rfl, Nat.le_of_ble_eq_true rfl⟩) (xPV hK hT3 rfl ⟨hT3, hO3⟩) rfl rfl hl.1 rfl (lv_room (Nat.le_of_ble_eq_true rfl)) dX6_set_60 ⟨Nat.le_of_ble_eq_true rfl, Nat.le_of_ble_eq_true rfl⟩) ?_
              refine vx_ret ?_
              exact xw_iret hx hb hr hlocks hS ⟨(by rw [wr_ch hip1 b2 hip2 iLk c_2 c_4, b_7]; rfl), (by rw [cl_nI (by omega) (by omega), show putV (mS f) nV (16 * ip1 + ip2) (enc p3 (-1) (-1)) = nV from if_pos he]), (by rw [cl_nI (by omega) (by omega), show putV (mS f) nV (16 * ip1 + ip2) (enc p3 (-1) (-1)) = nV from if_pos he, show putS (mS f) nV (16 * ip1 + ip2) (enc p3 (-1) (-1)) = mS f from if_pos he]; exact ⟨lab2, nm2, rf2, hV3, hl3, hIQ3, hz3, ho3⟩)⟩ (Nat.le_of_ble_eq_true rfl) (Nat.le_of_ble_eq_true rfl) dX6_set_63
            · rw [if_neg he, if_neg (by decide)] at hJ
              obtain ⟨lab2, nm2, rf2, hV3, hl3, hIQ3, hz3, ho3⟩ := hJ
              have hT3 := hV3.1
              obtain ⟨mc3, d3, cap3, f3, hO3, -⟩ := hV3.2.2.2.1
              rw [ho3] at hT3
              refine lv_aload_n hx hb dX6_set_59 rfl (lv_at hl 0 rfl) ?_
              refine xr_call (va_runV (As := []) (rest := []) ⟨hx, hb, hml, hown, hts⟩ (c_X6_versionR l D cA (nm 0 0) (nm2 1 0) (nm2 1 1) (nm2 1 2) (nm2 9 0) (nm2 7 (nV + 1)) d3 (nV + 1) mc3) (cwV 0 hts gX6_set_X6_version rfl rfl rfl (by decide +kernel) ⟨Nat.le_of_ble_eq_true rfl, Nat.le_of_ble_eq_true rfl⟩) (xPV hK hT3 rfl ⟨hT3, hO3⟩) rfl rfl hl.1 rfl (lv_room (Nat.le_of_ble_eq_true rfl)) dX6_set_60 ⟨Nat.le_of_ble_eq_true rfl, Nat.le_of_ble_eq_true rfl⟩) ?_
              refine vx_ret ?_
              exact xw_iret hx hb hr hlocks hS ⟨(by rw [wr_ch hip1 b2 hip2 iLk c_2 c_4, b_7]; rfl), (by rw [cl_nI (by omega) (by omega), show putV (mS f) nV (16 * ip1 + ip2) (enc p3 (-1) (-1)) = nV + 1 from if_neg he]), (by rw [cl_nI (by omega) (by omega), show putV (mS f) nV (16 * ip1 + ip2) (enc p3 (-1) (-1)) = nV + 1 from if_neg he, ← ex_put (n := 16 * nL) (by omega) (by omega) he]; exact ⟨lab2, nm2, rf2, hV3, hl3, hIQ3, hz3, ho3⟩)⟩ (Nat.le_of_ble_eq_true rfl) (Nat.le_of_ble_eq_true rfl) dX6_set_63
set_option maxHeartbeats 4000000 in
set_option maxRecDepth 100000 in
theorem c_X6_template (l : Launch) (hst : l.stackTraces = false) (D : va_G) (cA : Nat → ClassId) (lab : Nat → Nat) (nm : Nat → Nat → Nat) (rf : Nat → Nat → Option Nat) (f : Nat → Nat → Int32) (nC nL nV : Nat) (hi : CRi f nC nL nV) (A : Nat → Prop) (hl9 : CRl A lab nm rf nC nL) (H9 : Heap) (p1 : Int32) (p2 : Int32) (p3 : Int32) (p4 : Int32) (p5 : Int32) (p6 : Int32) (hAn : ∀ q, H9.size ≤ q → A q) : vx_Met l yX6_template wsX6_template (rmK 41 8 1160) (xPX D cA (fun U => pK A (nm 12 0) U) [.ref (nm 0 0), .int p1, .int p2, .int p3, .int p4, .int p5, .int p6] (fun H => H = H9 ∧ CRv D cA lab nm rf f nC nL nV H ∧ IQ0 D cA nm H)) (xW (pJ (wrF (mS f) nL p1 p2 (okB p3 && okT p4 p5) p6 false) (some (.int (nI (putV (mS f) nV (cl p1 p2) (enc p3 p4 p5))))) (CS D cA A (nm 12 0) (nm 0 0) ((putS (mS f) nV (cl p1 p2) (enc p3 p4 p5)).2.1) nC nL (putV (mS f) nV (cl p1 p2) (enc p3 p4 p5)))) A) (xT (wrF (mS f) nL p1 p2 (okB p3 && okT p4 p5) p6 false) (fun k => (if k = 1 then eI else (if k = 2 then eA else eS))) (CS D cA A (nm 12 0) (nm 0 0) f nC nL nV) A) 8 1160 A := by
  refine vx_ofW (cc := cX6_template) (maxL := 7) (ret := (some .int)) (by decide) rfl ?_
  intro p e s m args below meth c s₁ B hml ht hv
  obtain ⟨rfl, ⟨hK, hX⟩, hI⟩ := hv
  have hx := B.exec
  have hb := B.bytes
  have hr := B.returns
  have hts := atoms_spec (ws := wsX6_template) B.pre
  have hown : s.vm.findClass RX6 = some m.cls := findClass_of_methodNamed B.named
  have hlocks := B.notSynchronized
  have hl := lv_entry ([.ref (nm 0 0), .int p1, .int p2, .int p3, .int p4, .int p5, .int p6]) (n := 7) (Nat.le_of_ble_eq_true rfl)
  rw [lg_entry_eq]
  generalize (lg_sl ([.ref (nm 0 0), .int p1, .int p2, .int p3, .int p4, .int p5, .int p6]) ++ List.replicate (7 - (lg_sl ([.ref (nm 0 0), .int p1, .int p2, .int p3, .int p4, .int p5, .int p6])).length) Slot.unset).toArray = ls at hl ⊢
  have hl : lv_has ls 7 [(0, .ref (nm 0 0)), (1, .int p1), (2, .int p2), (3, .int p3), (4, .int p4), (5, .int p5), (6, .int p6)] := hl
  have h_X1 : ∀ w ∈ wsX10, w ∈ wsX6_template := fun _ h => List.mem_cons_of_mem _ (List.mem_append_left _ (List.mem_append_left _ (List.mem_append_left _ (List.mem_append_right _ h))))
  have h_X2 : ∀ w ∈ wsX20, w ∈ wsX6_template := fun _ h => List.mem_cons_of_mem _ (List.mem_append_left _ (List.mem_append_left _ (List.mem_append_left _ (List.mem_append_left _ (List.mem_append_left _ (List.mem_append_left _ (List.mem_append_left _ (List.mem_append_right _ h))))))))
  have h_X4 : ∀ w ∈ wsX40, w ∈ wsX6_template := fun _ h => List.mem_cons_of_mem _ (List.mem_append_left _ (List.mem_append_left _ (List.mem_append_left _ (List.mem_append_left _ (List.mem_append_right _ h)))))
  have h_X6 : ∀ w ∈ wsX60, w ∈ wsX6_template := fun _ h => List.mem_cons_of_mem _ (List.mem_append_left _ (List.mem_append_left _ (List.mem_append_left _ (List.mem_append_left _ (List.mem_append_left _ (List.mem_append_left _ (List.mem_append_right _ h)))))))
  have h_Jx4a65c : ∀ w ∈ wsJx4a65c0, w ∈ wsX6_template := fun _ h => List.mem_cons_of_mem _ (List.mem_append_left _ (List.mem_append_left _ (List.mem_append_left _ (List.mem_append_left _ (List.mem_append_left _ (List.mem_append_right _ h))))))
  obtain ⟨hH9, hI, hIQ⟩ := hI
  subst hH9
  have hV := hI
  have hi0 := hi
  obtain ⟨hT, ⟨mcC, dC, capC, fC, hOC, hQC, hnC, hcC, hfC, -⟩, ⟨mcL, dL, capL, fL, hOL, hQL, hnL, hcL, hfL, -⟩, ⟨mcV, dV, capV, fV, hOV, hQV, hnV, hcV, hfV, -⟩, hC, hL, hHo, hRo, hCh, hRl, hEn⟩ := hI
  obtain ⟨b1, b2, b3, iSel, iGd, iCur, iZero, iLk, iLkA, iLkB⟩ := hi
  have hS : va_S A s.heap s.heap [] := va_S.rf
  have hCS0 : CS D cA A (nm 12 0) (nm 0 0) f nC nL nV s.heap := ⟨lab, nm, rf, hV, hl9, hIQ, rfl, rfl⟩
  refine lv_aload_n hx hb dX6_template_0 rfl (lv_at hl 0 rfl) ?_
  refine lv_iload_n hx hb dX6_template_1 rfl (lv_at hl 1 rfl) ?_
  refine lv_iload_n hx hb dX6_template_2 rfl (lv_at hl 2 rfl) ?_
  refine xr_call (va_runV (As := [.int p1, .int p2]) (rest := []) ⟨hx, hb, hml, hown, hts⟩ (c_X6_isCell l D cA lab nm rf f nC nL nV (⟨b1, b2, b3, iSel, iGd, iCur, iZero, iLk, iLkA, iLkB⟩) p1 p2) (cwV 2 hts gX6_template_X6_isCell rfl rfl rfl (by decide +kernel) ⟨Nat.le_of_ble_eq_true rfl, Nat.le_of_ble_eq_true rfl⟩) (xPV hK hT rfl hV) rfl rfl hl.1 rfl (lv_room (Nat.le_of_ble_eq_true rfl)) dX6_template_3 ⟨Nat.le_of_ble_eq_true rfl, Nat.le_of_ble_eq_true rfl⟩) ?_
  refine xx_check (E0 := eI) (vx_runS (As := [.int (bI (okN nL p1 && okS p2))]) (rest := []) ⟨hx, hb, hml, hown, hts⟩ (c_X6_checkThere l hst D cA A (okN nL p1 && okS p2) (bI (okN nL p1 && okS p2)) rfl) (va_cwS 1 hts gX6_template_X6_checkThere rfl rfl rfl (by decide +kernel) ⟨Nat.le_of_ble_eq_true rfl, Nat.le_of_ble_eq_true rfl⟩) (xPXS hK tK.blind (fun U hU hW => hX.2.at hS (fun _ h => h) hU hW) trivial) rfl rfl hl.1 rfl (lv_room (Nat.le_of_ble_eq_true rfl)) dX6_template_6 ⟨Nat.le_of_ble_eq_true rfl, Nat.le_of_ble_eq_true rfl⟩) hS (fun b_1 ce q9 H1 z1 k1 hS1 g1 g2 g3 => ?_) (fun b_1 => ?_)
  · have hk9 : wrF (mS f) nL p1 p2 (okB p3 && okT p4 p5) p6 false = 1 := by simp [wrF, mS, b_1]
    exact vx_out (fun x hx => (ht x hx).elim) hlocks g1 g2 g3 (fun t ht9 _ => ⟨by rw [hk9]; decide, by rw [hk9] <;> rfl, by rw [ht9]; exact hCS0.same (fun q h1 _ => k1 q h1), hS1.F ht9⟩) hS1.2.2 (Nat.le_of_ble_eq_true rfl) (Nat.le_of_ble_eq_true rfl)
  · have _b_1 := b_1
    obtain ⟨ip1, hip1, ep1⟩ := okN_of (n := nL) (v := p1) (by omega) (by have h9 := b_1; (try simp only [Bool.and_eq_true] at h9); simp [h9])
    subst ep1
    obtain ⟨ip2, hip2, ep2⟩ := okS_of (v := p2) (by have h9 := b_1; (try simp only [Bool.and_eq_true] at h9); simp [h9])
    subst ep2
    refine lv_iload_n hx hb dX6_template_9 rfl (lv_at hl 3 rfl) ?_
    refine lv_iload hx hb dX6_template_10 (lv_at hl 4 rfl) ?_
    refine lv_iload hx hb dX6_template_12 (lv_at hl 5 rfl) ?_
    refine xr_call (va_runS (As := [.int p3, .int p4, .int p5]) (rest := []) ⟨hx, hb, hml, hown, hts⟩ (c_X6_isTemplate l D cA p3 p4 p5) (va_cwS 3 hts gX6_template_X6_isTemplate rfl rfl rfl (by decide +kernel) ⟨Nat.le_of_ble_eq_true rfl, Nat.le_of_ble_eq_true rfl⟩) (xPS hK trivial) rfl rfl hl.1 rfl (lv_room (Nat.le_of_ble_eq_true rfl)) dX6_template_14 ⟨Nat.le_of_ble_eq_true rfl, Nat.le_of_ble_eq_true rfl⟩) ?_
    refine xb_eq (tgt := 32) hx hb dX6_template_17 (by decide) (fun c_2 => ?_) (fun c_2 => ?_)
    · refine lv_iconst (v := 0) hx hb dX6_template_32 (by decide) ?_
      refine xx_check (E0 := eA) (vx_runS (As := [.int 0]) (rest := []) ⟨hx, hb, hml, hown, hts⟩ (c_X6_checkArgument l hst D cA A false 0 (by decide)) (va_cwS 1 hts gX6_template_X6_checkArgument rfl rfl rfl (by decide +kernel) ⟨Nat.le_of_ble_eq_true rfl, Nat.le_of_ble_eq_true rfl⟩) (xPXS hK tK.blind (fun U hU hW => hX.2.at hS (fun _ h => h) hU hW) trivial) rfl rfl hl.1 rfl (lv_room (Nat.le_of_ble_eq_true rfl)) dX6_template_33 ⟨Nat.le_of_ble_eq_true rfl, Nat.le_of_ble_eq_true rfl⟩) hS (fun b_3 ce q9 H1 z1 k1 hS1 g1 g2 g3 => ?_) (fun b_3 => ?_)
      · have hk9 : wrF (mS f) nL (nI ip1) (nI ip2) (okB p3 && okT p4 p5) p6 false = 2 := by simp [wrF, mS, b_1, c_2]
        exact vx_out (fun x hx => (ht x hx).elim) hlocks g1 g2 g3 (fun t ht9 _ => ⟨by rw [hk9]; decide, by rw [hk9] <;> rfl, by rw [ht9]; exact hCS0.same (fun q h1 _ => k1 q h1), hS1.F ht9⟩) hS1.2.2 (Nat.le_of_ble_eq_true rfl) (Nat.le_of_ble_eq_true rfl)
      · exact absurd b_3 (by decide)
    · refine lv_iload hx hb dX6_template_20 (lv_at hl 6 rfl) ?_
      refine xr_call (va_runS (As := [.int p6]) (rest := []) ⟨hx, hb, hml, hown, hts⟩ (c_X6_isOwner l D cA p6) (va_cwS 1 hts gX6_template_X6_isOwner rfl rfl rfl (by decide +kernel) ⟨Nat.le_of_ble_eq_true rfl, Nat.le_of_ble_eq_true rfl⟩) (xPS hK trivial) rfl rfl hl.1 rfl (lv_room (Nat.le_of_ble_eq_true rfl)) dX6_template_22 ⟨Nat.le_of_ble_eq_true rfl, Nat.le_of_ble_eq_true rfl⟩) ?_
      refine xb_eq (tgt := 32) hx hb dX6_template_25 (by decide) (fun c_4 => ?_) (fun c_4 => ?_)
      · refine lv_iconst (v := 0) hx hb dX6_template_32 (by decide) ?_
        refine xx_check (E0 := eA) (vx_runS (As := [.int 0]) (rest := []) ⟨hx, hb, hml, hown, hts⟩ (c_X6_checkArgument l hst D cA A false 0 (by decide)) (va_cwS 1 hts gX6_template_X6_checkArgument rfl rfl rfl (by decide +kernel) ⟨Nat.le_of_ble_eq_true rfl, Nat.le_of_ble_eq_true rfl⟩) (xPXS hK tK.blind (fun U hU hW => hX.2.at hS (fun _ h => h) hU hW) trivial) rfl rfl hl.1 rfl (lv_room (Nat.le_of_ble_eq_true rfl)) dX6_template_33 ⟨Nat.le_of_ble_eq_true rfl, Nat.le_of_ble_eq_true rfl⟩) hS (fun b_5 ce q9 H1 z1 k1 hS1 g1 g2 g3 => ?_) (fun b_5 => ?_)
        · have hk9 : wrF (mS f) nL (nI ip1) (nI ip2) (okB p3 && okT p4 p5) p6 false = 2 := by simp [wrF, mS, b_1, c_2, c_4]
          exact vx_out (fun x hx => (ht x hx).elim) hlocks g1 g2 g3 (fun t ht9 _ => ⟨by rw [hk9]; decide, by rw [hk9] <;> rfl, by rw [ht9]; exact hCS0.same (fun q h1 _ => k1 q h1), hS1.F ht9⟩) hS1.2.2 (Nat.le_of_ble_eq_true rfl) (Nat.le_of_ble_eq_true rfl)
        · exact absurd b_5 (by decide)
      · refine lv_iconst (v := 1) hx hb dX6_template_28 (by decide) ?_
        refine lv_goto (tgt := 33) hx hb dX6_template_29 (by decide) ?_
        refine xx_check (E0 := eA) (vx_runS (As := [.int 1]) (rest := []) ⟨hx, hb, hml, hown, hts⟩ (c_X6_checkArgument l hst D cA A true 1 (by decide)) (va_cwS 1 hts gX6_template_X6_checkArgument rfl rfl rfl (by decide +kernel) ⟨Nat.le_of_ble_eq_true rfl, Nat.le_of_ble_eq_true rfl⟩) (xPXS hK tK.blind (fun U hU hW => hX.2.at hS (fun _ h => h) hU hW) trivial) rfl rfl hl.1 rfl (lv_room (Nat.le_of_ble_eq_true rfl)) dX6_template_33 ⟨Nat.le_of_ble_eq_true rfl, Nat.le_of_ble_eq_true rfl⟩) hS (fun b_6 ce q9 H1 z1 k1 hS1 g1 g2 g3 => ?_) (fun b_6 => ?_)
        · exact absurd b_6 (by decide)
        · have _b_6 := b_6
          refine lv_aload_n hx hb dX6_template_36 rfl (lv_at hl 0 rfl) ?_
          refine lv_iload_n hx hb dX6_template_37 rfl (lv_at hl 1 rfl) ?_
          refine lv_iload_n hx hb dX6_template_38 rfl (lv_at hl 2 rfl) ?_
          refine lv_iload hx hb dX6_template_39 (lv_at hl 6 rfl) ?_
          refine xr_call (va_runV (As := [.int (nI ip1), .int (nI ip2), .int p6]) (rest := []) ⟨hx, hb, hml, hown, hts⟩ (c_X6_isFreeFor l D cA lab nm rf f nC nL nV hi0 ip1 ip2 p6 (by omega) (by omega)) (cwV 3 hts gX6_template_X6_isFreeFor rfl rfl rfl (by decide +kernel) ⟨Nat.le_of_ble_eq_true rfl, Nat.le_of_ble_eq_true rfl⟩) (xPV hK hT rfl hV) rfl rfl hl.1 rfl (lv_room (Nat.le_of_ble_eq_true rfl)) dX6_template_41 ⟨Nat.le_of_ble_eq_true rfl, Nat.le_of_ble_eq_true rfl⟩) ?_
          refine xx_check (E0 := eS) (vx_runS (As := [.int (bI (frF f ip1 ip2 p6))]) (rest := []) ⟨hx, hb, hml, hown, hts⟩ (c_X6_checkState l hst D cA A (frF f ip1 ip2 p6) (bI (frF f ip1 ip2 p6)) rfl) (va_cwS 1 hts gX6_template_X6_checkState rfl rfl rfl (by decide +kernel) ⟨Nat.le_of_ble_eq_true rfl, Nat.le_of_ble_eq_true rfl⟩) (xPXS hK tK.blind (fun U hU hW => hX.2.at hS (fun _ h => h) hU hW) trivial) rfl rfl hl.1 rfl (lv_room (Nat.le_of_ble_eq_true rfl)) dX6_template_44 ⟨Nat.le_of_ble_eq_true rfl, Nat.le_of_ble_eq_true rfl⟩) hS (fun b_7 ce q9 H1 z1 k1 hS1 g1 g2 g3 => ?_) (fun b_7 => ?_)
          · have hk9 : wrF (mS f) nL (nI ip1) (nI ip2) (okB p3 && okT p4 p5) p6 false = 3 := by rw [wr_ch hip1 b2 hip2 iLk c_2 c_4, b_7]; rfl
            exact vx_out (fun x hx => (ht x hx).elim) hlocks g1 g2 g3 (fun t ht9 _ => ⟨by rw [hk9]; decide, by rw [hk9] <;> rfl, by rw [ht9]; exact hCS0.same (fun q h1 _ => k1 q h1), hS1.F ht9⟩) hS1.2.2 (Nat.le_of_ble_eq_true rfl) (Nat.le_of_ble_eq_true rfl)
          · have _b_7 := b_7
            refine lv_aload_n hx hb dX6_template_47 rfl (lv_at hl 0 rfl) ?_
            refine lv_iload_n hx hb dX6_template_48 rfl (lv_at hl 1 rfl) ?_
            refine lv_iload_n hx hb dX6_template_49 rfl (lv_at hl 2 rfl) ?_
            have hsz0 := hS.1
            have hold : ∀ x : Nat, x < s.heap.size → s.heap[x]? = s.heap[x]? := fun _ _ => rfl
            refine xn_o (ci := 3) hx hb hts h_X2 tyX2 tyX2_ok hown (hts (.classLink RX6 122 RX2) (by decide +kernel)) (hts (.instantiable RX2 3) (by decide +kernel)) (hts (.initialized RX2) (by decide +kernel)) hK hS rfl [.int 0, .int 0, .int 0] (fun j hj => by rcases (show j = 0 ∨ j = 1 ∨ j = 2 from by omega) with rfl | rfl | rfl <;> rfl) (Nat.le_of_ble_eq_true rfl) (Nat.le_of_ble_eq_true rfl) dX6_template_50 (fun q1 H hq1 gq1 hN1 zN oN hS => ?_)
            have hAq1 : A q1 := hAn _ gq1
            have hold : ∀ x : Nat, x < s.heap.size → H[x]? = s.heap[x]? := fun x hx => (oN x (Nat.lt_of_lt_of_le hx hsz0)).trans (hold x hx)
            refine lv_dup hx hb dX6_template_53 rfl ?_
            refine lv_iload_n hx hb dX6_template_54 rfl (lv_at hl 3 rfl) ?_
            refine lv_iload hx hb dX6_template_55 (lv_at hl 4 rfl) ?_
            refine lv_iload hx hb dX6_template_57 (lv_at hl 5 rfl) ?_
            have hsz0 := hS.1
            refine xw_calln (va_runI (As := [.int p3, .int p4, .int p5]) (rest := [.ref q1, .int (nI ip2), .int (nI ip1), .ref (nm 0 0)]) ⟨hx, hb, hml, hown, hts⟩ (c_X2_init l D cA q1 H p3 p4 p5) (cwI 3 hts gX6_template_X2_init rfl rfl rfl (hts (.initialized RX2) (by decide +kernel)) (hts (.methodLink RX6 124 yX2_init) (by decide +kernel)) (hts (.instanceMethod yX2_init) (by decide +kernel)) rfl (by decide +kernel) ⟨Nat.le_of_ble_eq_true rfl, Nat.le_of_ble_eq_true rfl⟩) (xPS hK ⟨rfl, hN1⟩) rfl rfl hl.1 rfl (lv_room (Nat.le_of_ble_eq_true rfl)) dX6_template_59 ⟨Nat.le_of_ble_eq_true rfl, Nat.le_of_ble_eq_true rfl⟩) hS (fun z _ h => by rw [show z = q1 from h]; exact hAq1) (fun z h => by rw [show z = q1 from h]; exact hAq1) (fun H locs hN1 z9 q9 hS => ?_)
            have hold : ∀ x : Nat, x < s.heap.size → H[x]? = s.heap[x]? := fun x hx => (q9 x (Nat.lt_of_lt_of_le hx hsz0) (show ¬ x = q1 from by omega)).trans (hold x hx)
            have hsz := hS.1
            have hs9 : ∀ x, x < s.heap.size → lu lab q1 10 x = lab x := fun x hx => lu_un (by omega)
            obtain ⟨hV2, hIQ2⟩ := (CRv.keptX (lab' := lu lab q1 10) hV hl9 hIQ (fun _ => False) id (fun x h1 _ _ => hold x h1) hs9).all
            have hl2 := hl9.relab hV hIQ (lu_A hl9.1 hAq1) hs9
            have hE9 : eR D (some q1) (enc p3 p4 p5) H := ⟨p3, p4, p5, rfl, (by have h9 := c_2; simp only [Bool.and_eq_true] at h9; exact ⟨h9.1, Or.inr h9.2⟩), hN1⟩
            refine xw_calln (va_runV (As := [.int (nI ip1), .int (nI ip2), .ref q1]) (rest := []) ⟨hx, hb, hml, hown, hts⟩ (c_X6_enter_s l D cA (lu lab q1 10) nm _ f nC nL nV hi0 A hl2 H (fun x h => hAn x (Nat.le_trans hsz h)) ip1 ip2 (enc p3 p4 p5) hip1 hip2 q1 lu_at) (cwV 3 hts gX6_template_X6_enter rfl rfl rfl (by decide +kernel) ⟨Nat.le_of_ble_eq_true rfl, Nat.le_of_ble_eq_true rfl⟩) (xPXV hK zK.blind (fun U hU hW => hX.1.at hS (fun _ h => h) hU hW) hV2.1 rfl ⟨rfl, hV2, hIQ2, hE9⟩) rfl rfl hl.1 rfl (lv_room (Nat.le_of_ble_eq_true rfl)) dX6_template_62 ⟨Nat.le_of_ble_eq_true rfl, Nat.le_of_ble_eq_true rfl⟩) hS (fun _ _ h => h) (fun _ h => h) (fun H9 locs hJ z9 q9 hS => ?_)
            rw [ex_cnt (show (16 * ip1 + ip2) < 16 * nL by omega)] at hJ
            by_cases he : f 7 (16 * ip1 + ip2) = enc p3 p4 p5
            · rw [if_pos he, if_pos rfl] at hJ
              obtain ⟨lab2, nm2, rf2, hV3, hl3, hIQ3, hz3, ho3⟩ := hJ
              have hT3 := hV3.1
              obtain ⟨mc3, d3, cap3, f3, hO3, -⟩ := hV3.2.2.2.1
              rw [ho3] at hT3
              refine lv_aload_n hx hb dX6_template_65 rfl (lv_at hl 0 rfl) ?_
              refine xr_call (va_runV (As := []) (rest := []) ⟨hx, hb, hml, hown, hts⟩ (c_X6_versionR l D cA (nm 0 0) (nm2 1 0) (nm2 1 1) (nm2 1 2) (nm2 9 0) (nm2 7 nV) d3 nV mc3) (cwV 0 hts gX6_template_X6_version rfl rfl rfl (by decide +kernel) ⟨Nat.le_of_ble_eq_true rfl, Nat.le_of_ble_eq_true rfl⟩) (xPV hK hT3 rfl ⟨hT3, hO3⟩) rfl rfl hl.1 rfl (lv_room (Nat.le_of_ble_eq_true rfl)) dX6_template_66 ⟨Nat.le_of_ble_eq_true rfl, Nat.le_of_ble_eq_true rfl⟩) ?_
              refine vx_ret ?_
              exact xw_iret hx hb hr hlocks hS ⟨(by rw [wr_ch hip1 b2 hip2 iLk c_2 c_4, b_7]; rfl), (by rw [cl_nI (by omega) (by omega), show putV (mS f) nV (16 * ip1 + ip2) (enc p3 p4 p5) = nV from if_pos he]), (by rw [cl_nI (by omega) (by omega), show putV (mS f) nV (16 * ip1 + ip2) (enc p3 p4 p5) = nV from if_pos he, show putS (mS f) nV (16 * ip1 + ip2) (enc p3 p4 p5) = mS f from if_pos he]; exact ⟨lab2, nm2, rf2, hV3, hl3, hIQ3, hz3, ho3⟩)⟩ (Nat.le_of_ble_eq_true rfl) (Nat.le_of_ble_eq_true rfl) dX6_template_69
            · rw [if_neg he, if_neg (by decide)] at hJ
              obtain ⟨lab2, nm2, rf2, hV3, hl3, hIQ3, hz3, ho3⟩ := hJ
              have hT3 := hV3.1
              obtain ⟨mc3, d3, cap3, f3, hO3, -⟩ := hV3.2.2.2.1
              rw [ho3] at hT3
              refine lv_aload_n hx hb dX6_template_65 rfl (lv_at hl 0 rfl) ?_
              refine xr_call (va_runV (As := []) (rest := []) ⟨hx, hb, hml, hown, hts⟩ (c_X6_versionR l D cA (nm 0 0) (nm2 1 0) (nm2 1 1) (nm2 1 2) (nm2 9 0) (nm2 7 (nV + 1)) d3 (nV + 1) mc3) (cwV 0 hts gX6_template_X6_version rfl rfl rfl (by decide +kernel) ⟨Nat.le_of_ble_eq_true rfl, Nat.le_of_ble_eq_true rfl⟩) (xPV hK hT3 rfl ⟨hT3, hO3⟩) rfl rfl hl.1 rfl (lv_room (Nat.le_of_ble_eq_true rfl)) dX6_template_66 ⟨Nat.le_of_ble_eq_true rfl, Nat.le_of_ble_eq_true rfl⟩) ?_
              refine vx_ret ?_
              exact xw_iret hx hb hr hlocks hS ⟨(by rw [wr_ch hip1 b2 hip2 iLk c_2 c_4, b_7]; rfl), (by rw [cl_nI (by omega) (by omega), show putV (mS f) nV (16 * ip1 + ip2) (enc p3 p4 p5) = nV + 1 from if_neg he]), (by rw [cl_nI (by omega) (by omega), show putV (mS f) nV (16 * ip1 + ip2) (enc p3 p4 p5) = nV + 1 from if_neg he, ← ex_put (n := 16 * nL) (by omega) (by omega) he]; exact ⟨lab2, nm2, rf2, hV3, hl3, hIQ3, hz3, ho3⟩)⟩ (Nat.le_of_ble_eq_true rfl) (Nat.le_of_ble_eq_true rfl) dX6_template_69
set_option maxHeartbeats 4000000 in
set_option maxRecDepth 100000 in
theorem c_X6_remove (l : Launch) (hst : l.stackTraces = false) (D : va_G) (cA : Nat → ClassId) (lab : Nat → Nat) (nm : Nat → Nat → Nat) (rf : Nat → Nat → Option Nat) (f : Nat → Nat → Int32) (nC nL nV : Nat) (hi : CRi f nC nL nV) (A : Nat → Prop) (hl9 : CRl A lab nm rf nC nL) (H9 : Heap) (p1 : Int32) (p2 : Int32) (p3 : Int32) (hAn : ∀ q, H9.size ≤ q → A q) : vx_Met l yX6_remove wsX6_remove (rmK 41 8 1160) (xPX D cA (fun U => pK A (nm 12 0) U) [.ref (nm 0 0), .int p1, .int p2, .int p3] (fun H => H = H9 ∧ CRv D cA lab nm rf f nC nL nV H ∧ IQ0 D cA nm H)) (xW (pJ (kRm (mS f) nL p1 p2 p3) (some (.int (nI (putV (mS f) nV (cl p1 p2) (0))))) (CS D cA A (nm 12 0) (nm 0 0) ((putS (mS f) nV (cl p1 p2) (0)).2.1) nC nL (putV (mS f) nV (cl p1 p2) (0)))) A) (xT (kRm (mS f) nL p1 p2 p3) (fun k => (if k = 1 then eI else (if k = 2 then eA else eS))) (CS D cA A (nm 12 0) (nm 0 0) f nC nL nV) A) 8 1160 A := by
  refine vx_ofW (cc := cX6_remove) (maxL := 4) (ret := (some .int)) (by decide) rfl ?_
  intro p e s m args below meth c s₁ B hml ht hv
  obtain ⟨rfl, ⟨hK, hX⟩, hI⟩ := hv
  have hx := B.exec
  have hb := B.bytes
  have hr := B.returns
  have hts := atoms_spec (ws := wsX6_remove) B.pre
  have hown : s.vm.findClass RX6 = some m.cls := findClass_of_methodNamed B.named
  have hlocks := B.notSynchronized
  have hl := lv_entry ([.ref (nm 0 0), .int p1, .int p2, .int p3]) (n := 4) (Nat.le_of_ble_eq_true rfl)
  rw [lg_entry_eq]
  generalize (lg_sl ([.ref (nm 0 0), .int p1, .int p2, .int p3]) ++ List.replicate (4 - (lg_sl ([.ref (nm 0 0), .int p1, .int p2, .int p3])).length) Slot.unset).toArray = ls at hl ⊢
  have hl : lv_has ls 4 [(0, .ref (nm 0 0)), (1, .int p1), (2, .int p2), (3, .int p3)] := hl
  have h_X1 : ∀ w ∈ wsX10, w ∈ wsX6_remove := fun _ h => List.mem_cons_of_mem _ (List.mem_append_left _ (List.mem_append_left _ (List.mem_append_left _ (List.mem_append_left _ (List.mem_append_right _ h)))))
  have h_X2 : ∀ w ∈ wsX20, w ∈ wsX6_remove := fun _ h => List.mem_cons_of_mem _ (List.mem_append_left _ (List.mem_append_left _ (List.mem_append_left _ (List.mem_append_right _ h))))
  have h_X4 : ∀ w ∈ wsX40, w ∈ wsX6_remove := fun _ h => List.mem_cons_of_mem _ (List.mem_append_left _ (List.mem_append_left _ (List.mem_append_left _ (List.mem_append_left _ (List.mem_append_left _ (List.mem_append_right _ h))))))
  have h_X6 : ∀ w ∈ wsX60, w ∈ wsX6_remove := fun _ h => List.mem_cons_of_mem _ (List.mem_append_left _ (List.mem_append_left _ (List.mem_append_left _ (List.mem_append_left _ (List.mem_append_left _ (List.mem_append_left _ (List.mem_append_left _ (List.mem_append_right _ h))))))))
  have h_Jx4a65c : ∀ w ∈ wsJx4a65c0, w ∈ wsX6_remove := fun _ h => List.mem_cons_of_mem _ (List.mem_append_left _ (List.mem_append_left _ (List.mem_append_left _ (List.mem_append_left _ (List.mem_append_left _ (List.mem_append_left _ (List.mem_append_right _ h)))))))
  obtain ⟨hH9, hI, hIQ⟩ := hI
  subst hH9
  have hV := hI
  have hi0 := hi
  obtain ⟨hT, ⟨mcC, dC, capC, fC, hOC, hQC, hnC, hcC, hfC, -⟩, ⟨mcL, dL, capL, fL, hOL, hQL, hnL, hcL, hfL, -⟩, ⟨mcV, dV, capV, fV, hOV, hQV, hnV, hcV, hfV, -⟩, hC, hL, hHo, hRo, hCh, hRl, hEn⟩ := hI
  obtain ⟨b1, b2, b3, iSel, iGd, iCur, iZero, iLk, iLkA, iLkB⟩ := hi
  have hS : va_S A s.heap s.heap [] := va_S.rf
  have hCS0 : CS D cA A (nm 12 0) (nm 0 0) f nC nL nV s.heap := ⟨lab, nm, rf, hV, hl9, hIQ, rfl, rfl⟩
  obtain ⟨ea9, ge9, hEo, hEq, hEr, -⟩ := hEn nV (Nat.le_refl _)
  refine lv_aload_n hx hb dX6_remove_0 rfl (lv_at hl 0 rfl) ?_
  refine lv_iload_n hx hb dX6_remove_1 rfl (lv_at hl 1 rfl) ?_
  refine lv_iload_n hx hb dX6_remove_2 rfl (lv_at hl 2 rfl) ?_
  refine xr_call (va_runV (As := [.int p1, .int p2]) (rest := []) ⟨hx, hb, hml, hown, hts⟩ (c_X6_isCell l D cA lab nm rf f nC nL nV (⟨b1, b2, b3, iSel, iGd, iCur, iZero, iLk, iLkA, iLkB⟩) p1 p2) (cwV 2 hts gX6_remove_X6_isCell rfl rfl rfl (by decide +kernel) ⟨Nat.le_of_ble_eq_true rfl, Nat.le_of_ble_eq_true rfl⟩) (xPV hK hT rfl hV) rfl rfl hl.1 rfl (lv_room (Nat.le_of_ble_eq_true rfl)) dX6_remove_3 ⟨Nat.le_of_ble_eq_true rfl, Nat.le_of_ble_eq_true rfl⟩) ?_
  refine xx_check (E0 := eI) (vx_runS (As := [.int (bI (okN nL p1 && okS p2))]) (rest := []) ⟨hx, hb, hml, hown, hts⟩ (c_X6_checkThere l hst D cA A (okN nL p1 && okS p2) (bI (okN nL p1 && okS p2)) rfl) (va_cwS 1 hts gX6_remove_X6_checkThere rfl rfl rfl (by decide +kernel) ⟨Nat.le_of_ble_eq_true rfl, Nat.le_of_ble_eq_true rfl⟩) (xPXS hK tK.blind (fun U hU hW => hX.2.at hS (fun _ h => h) hU hW) trivial) rfl rfl hl.1 rfl (lv_room (Nat.le_of_ble_eq_true rfl)) dX6_remove_6 ⟨Nat.le_of_ble_eq_true rfl, Nat.le_of_ble_eq_true rfl⟩) hS (fun b_1 ce q9 H1 z1 k1 hS1 g1 g2 g3 => ?_) (fun b_1 => ?_)
  · have hk9 : kRm (mS f) nL p1 p2 p3 = 1 := by simp [kRm, wrF, mS, b_1]
    exact vx_out (fun x hx => (ht x hx).elim) hlocks g1 g2 g3 (fun t ht9 _ => ⟨by rw [hk9]; decide, by rw [hk9] <;> rfl, by rw [ht9]; exact hCS0.same (fun q h1 _ => k1 q h1), hS1.F ht9⟩) hS1.2.2 (Nat.le_of_ble_eq_true rfl) (Nat.le_of_ble_eq_true rfl)
  · have _b_1 := b_1
    obtain ⟨ip1, hip1, ep1⟩ := okN_of (n := nL) (v := p1) (by omega) (by have h9 := b_1; (try simp only [Bool.and_eq_true] at h9); simp [h9])
    subst ep1
    obtain ⟨ip2, hip2, ep2⟩ := okS_of (v := p2) (by have h9 := b_1; (try simp only [Bool.and_eq_true] at h9); simp [h9])
    subst ep2
    refine lv_iload_n hx hb dX6_remove_9 rfl (lv_at hl 3 rfl) ?_
    refine xr_call (va_runS (As := [.int p3]) (rest := []) ⟨hx, hb, hml, hown, hts⟩ (c_X6_isOwner l D cA p3) (va_cwS 1 hts gX6_remove_X6_isOwner rfl rfl rfl (by decide +kernel) ⟨Nat.le_of_ble_eq_true rfl, Nat.le_of_ble_eq_true rfl⟩) (xPS hK trivial) rfl rfl hl.1 rfl (lv_room (Nat.le_of_ble_eq_true rfl)) dX6_remove_10 ⟨Nat.le_of_ble_eq_true rfl, Nat.le_of_ble_eq_true rfl⟩) ?_
    refine xx_check (E0 := eA) (vx_runS (As := [.int (bI (okO p3))]) (rest := []) ⟨hx, hb, hml, hown, hts⟩ (c_X6_checkArgument l hst D cA A (okO p3) (bI (okO p3)) rfl) (va_cwS 1 hts gX6_remove_X6_checkArgument rfl rfl rfl (by decide +kernel) ⟨Nat.le_of_ble_eq_true rfl, Nat.le_of_ble_eq_true rfl⟩) (xPXS hK tK.blind (fun U hU hW => hX.2.at hS (fun _ h => h) hU hW) trivial) rfl rfl hl.1 rfl (lv_room (Nat.le_of_ble_eq_true rfl)) dX6_remove_13 ⟨Nat.le_of_ble_eq_true rfl, Nat.le_of_ble_eq_true rfl⟩) hS (fun b_2 ce q9 H1 z1 k1 hS1 g1 g2 g3 => ?_) (fun b_2 => ?_)
    · have hk9 : kRm (mS f) nL (nI ip1) (nI ip2) p3 = 2 := by simp [kRm, wrF, mS, b_1, b_2]
      exact vx_out (fun x hx => (ht x hx).elim) hlocks g1 g2 g3 (fun t ht9 _ => ⟨by rw [hk9]; decide, by rw [hk9] <;> rfl, by rw [ht9]; exact hCS0.same (fun q h1 _ => k1 q h1), hS1.F ht9⟩) hS1.2.2 (Nat.le_of_ble_eq_true rfl) (Nat.le_of_ble_eq_true rfl)
    · have _b_2 := b_2
      refine lv_aload_n hx hb dX6_remove_16 rfl (lv_at hl 0 rfl) ?_
      refine lv_iload_n hx hb dX6_remove_17 rfl (lv_at hl 1 rfl) ?_
      refine lv_iload_n hx hb dX6_remove_18 rfl (lv_at hl 2 rfl) ?_
      refine lv_iload_n hx hb dX6_remove_19 rfl (lv_at hl 3 rfl) ?_
      refine xr_call (va_runV (As := [.int (nI ip1), .int (nI ip2), .int p3]) (rest := []) ⟨hx, hb, hml, hown, hts⟩ (c_X6_isFreeFor l D cA lab nm rf f nC nL nV hi0 ip1 ip2 p3 (by omega) (by omega)) (cwV 3 hts gX6_remove_X6_isFreeFor rfl rfl rfl (by decide +kernel) ⟨Nat.le_of_ble_eq_true rfl, Nat.le_of_ble_eq_true rfl⟩) (xPV hK hT rfl hV) rfl rfl hl.1 rfl (lv_room (Nat.le_of_ble_eq_true rfl)) dX6_remove_20 ⟨Nat.le_of_ble_eq_true rfl, Nat.le_of_ble_eq_true rfl⟩) ?_
      refine xb_eq (tgt := 42) hx hb dX6_remove_23 (by decide) (fun c_3 => ?_) (fun c_3 => ?_)
      · refine lv_iconst (v := 0) hx hb dX6_remove_42 (by decide) ?_
        refine xx_check (E0 := eS) (vx_runS (As := [.int 0]) (rest := []) ⟨hx, hb, hml, hown, hts⟩ (c_X6_checkState l hst D cA A false 0 (by decide)) (va_cwS 1 hts gX6_remove_X6_checkState rfl rfl rfl (by decide +kernel) ⟨Nat.le_of_ble_eq_true rfl, Nat.le_of_ble_eq_true rfl⟩) (xPXS hK tK.blind (fun U hU hW => hX.2.at hS (fun _ h => h) hU hW) trivial) rfl rfl hl.1 rfl (lv_room (Nat.le_of_ble_eq_true rfl)) dX6_remove_43 ⟨Nat.le_of_ble_eq_true rfl, Nat.le_of_ble_eq_true rfl⟩) hS (fun b_4 ce q9 H1 z1 k1 hS1 g1 g2 g3 => ?_) (fun b_4 => ?_)
        · have hk9 : kRm (mS f) nL (nI ip1) (nI ip2) p3 = 3 := by unfold kRm; rw [show wrF (mS f) nL (nI ip1) (nI ip2) true p3 false = 3 from by rw [wr_ch hip1 b2 hip2 iLk rfl b_2, c_3]; rfl]; rfl
          exact vx_out (fun x hx => (ht x hx).elim) hlocks g1 g2 g3 (fun t ht9 _ => ⟨by rw [hk9]; decide, by rw [hk9] <;> rfl, by rw [ht9]; exact hCS0.same (fun q h1 _ => k1 q h1), hS1.F ht9⟩) hS1.2.2 (Nat.le_of_ble_eq_true rfl) (Nat.le_of_ble_eq_true rfl)
        · exact absurd b_4 (by decide)
      · refine lv_aload_n hx hb dX6_remove_26 rfl (lv_at hl 0 rfl) ?_
        refine x_get (v := .ref (nm 7 nV)) hx hb hts h_X6 hown hK hT rfl 4 (by decide) (hts (.fieldLink RX6 32 "ConfigBeacon" "current" "LConfigBeacon$Entries;") (by decide +kernel)) (fun _ h => h) rfl dX6_remove_27 ?_
        refine lv_iload_n hx hb dX6_remove_30 rfl (lv_at hl 1 rfl) ?_
        refine lv_iload_n hx hb dX6_remove_31 rfl (lv_at hl 2 rfl) ?_
        refine xr_call (va_runV (As := [.int (nI ip1), .int (nI ip2)]) (rest := []) ⟨hx, hb, hml, hown, hts⟩ (c_X1_entryOf l D cA (nm 7 nV) ea9 ge9 ip1 ip2 (by omega) (by omega) (ge9 (16 * ip1 + ip2)) rfl) (cwV 2 hts gX6_remove_X1_entryOf rfl rfl rfl (by decide +kernel) ⟨Nat.le_of_ble_eq_true rfl, Nat.le_of_ble_eq_true rfl⟩) (xPV hK hEo rfl ⟨hEo, hEq⟩) rfl rfl hl.1 rfl (lv_room (Nat.le_of_ble_eq_true rfl)) dX6_remove_32 ⟨Nat.le_of_ble_eq_true rfl, Nat.le_of_ble_eq_true rfl⟩) ?_
        have hE9 : eR D (ge9 (16 * ip1 + ip2)) (f 12 (128 * nV + (16 * ip1 + ip2))) s.heap := hEr (16 * ip1 + ip2) (by omega)
        cases hg9 : (ge9 (16 * ip1 + ip2)) with
        | none =>
          rw [hg9] at hE9
          have k7 : f 7 (16 * ip1 + ip2) = 0 := by rw [iCur _ (by omega)]; exact hE9.n.mp rfl
          refine lv_ifnullN (tgt := 42) hx hb dX6_remove_35 (by decide) ?_
          refine lv_iconst (v := 0) hx hb dX6_remove_42 (by decide) ?_
          refine xx_check (E0 := eS) (vx_runS (As := [.int 0]) (rest := []) ⟨hx, hb, hml, hown, hts⟩ (c_X6_checkState l hst D cA A false 0 (by decide)) (va_cwS 1 hts gX6_remove_X6_checkState rfl rfl rfl (by decide +kernel) ⟨Nat.le_of_ble_eq_true rfl, Nat.le_of_ble_eq_true rfl⟩) (xPXS hK tK.blind (fun U hU hW => hX.2.at hS (fun _ h => h) hU hW) trivial) rfl rfl hl.1 rfl (lv_room (Nat.le_of_ble_eq_true rfl)) dX6_remove_43 ⟨Nat.le_of_ble_eq_true rfl, Nat.le_of_ble_eq_true rfl⟩) hS (fun b_5 ce q9 H1 z1 k1 hS1 g1 g2 g3 => ?_) (fun b_5 => ?_)
          · have hk9 : kRm (mS f) nL (nI ip1) (nI ip2) p3 = 3 := by unfold kRm; rw [show wrF (mS f) nL (nI ip1) (nI ip2) true p3 false = 0 from by rw [wr_ch hip1 b2 hip2 iLk rfl b_2, c_3]; rfl, if_pos rfl, cl_nI (by omega) (by omega)]; show (if f 7 (16 * ip1 + ip2) = 0 then (3 : Int32) else 0) = _; rw [if_pos k7]
            exact vx_out (fun x hx => (ht x hx).elim) hlocks g1 g2 g3 (fun t ht9 _ => ⟨by rw [hk9]; decide, by rw [hk9] <;> rfl, by rw [ht9]; exact hCS0.same (fun q h1 _ => k1 q h1), hS1.F ht9⟩) hS1.2.2 (Nat.le_of_ble_eq_true rfl) (Nat.le_of_ble_eq_true rfl)
          · exact absurd b_5 (by decide)
        | some q9 =>
          rw [hg9] at hE9
          have k7 : ¬ f 7 (16 * ip1 + ip2) = 0 := fun q => by have h8 := hE9.n.mpr (by rw [← iCur _ (by omega)]; exact q); cases h8
          refine lv_ifnull hx hb dX6_remove_35 ?_
          refine lv_iconst (v := 1) hx hb dX6_remove_38 (by decide) ?_
          refine lv_goto (tgt := 43) hx hb dX6_remove_39 (by decide) ?_
          refine xx_check (E0 := eS) (vx_runS (As := [.int 1]) (rest := []) ⟨hx, hb, hml, hown, hts⟩ (c_X6_checkState l hst D cA A true 1 (by decide)) (va_cwS 1 hts gX6_remove_X6_checkState rfl rfl rfl (by decide +kernel) ⟨Nat.le_of_ble_eq_true rfl, Nat.le_of_ble_eq_true rfl⟩) (xPXS hK tK.blind (fun U hU hW => hX.2.at hS (fun _ h => h) hU hW) trivial) rfl rfl hl.1 rfl (lv_room (Nat.le_of_ble_eq_true rfl)) dX6_remove_43 ⟨Nat.le_of_ble_eq_true rfl, Nat.le_of_ble_eq_true rfl⟩) hS (fun b_6 ce q9 H1 z1 k1 hS1 g1 g2 g3 => ?_) (fun b_6 => ?_)
          · exact absurd b_6 (by decide)
          · have _b_6 := b_6
            refine lv_aload_n hx hb dX6_remove_46 rfl (lv_at hl 0 rfl) ?_
            refine lv_iload_n hx hb dX6_remove_47 rfl (lv_at hl 1 rfl) ?_
            refine lv_iload_n hx hb dX6_remove_48 rfl (lv_at hl 2 rfl) ?_
            refine lv_null hx hb dX6_remove_49 ?_
            have hsz := hS.1
            refine xw_calln (va_runV (As := [.int (nI ip1), .int (nI ip2), .null]) (rest := []) ⟨hx, hb, hml, hown, hts⟩ (c_X6_enter_n l D cA lab nm _ f nC nL nV hi0 A hl9 s.heap (fun x h => hAn x (Nat.le_trans hsz h)) ip1 ip2 0 hip1 hip2) (cwV 3 hts gX6_remove_X6_enter rfl rfl rfl (by decide +kernel) ⟨Nat.le_of_ble_eq_true rfl, Nat.le_of_ble_eq_true rfl⟩) (xPXV hK zK.blind (fun U hU hW => hX.1.at hS (fun _ h => h) hU hW) hV.1 rfl ⟨rfl, hV, hIQ, rfl⟩) rfl rfl hl.1 rfl (lv_room (Nat.le_of_ble_eq_true rfl)) dX6_remove_50 ⟨Nat.le_of_ble_eq_true rfl, Nat.le_of_ble_eq_true rfl⟩) hS (fun _ _ h => h) (fun _ h => h) (fun H9 locs hJ z9 q9 hS => ?_)
            rw [ex_cnt (show (16 * ip1 + ip2) < 16 * nL by omega)] at hJ
            by_cases he : f 7 (16 * ip1 + ip2) = 0
            · rw [if_pos he, if_pos rfl] at hJ
              obtain ⟨lab2, nm2, rf2, hV3, hl3, hIQ3, hz3, ho3⟩ := hJ
              have hT3 := hV3.1
              obtain ⟨mc3, d3, cap3, f3, hO3, -⟩ := hV3.2.2.2.1
              rw [ho3] at hT3
              refine lv_aload_n hx hb dX6_remove_53 rfl (lv_at hl 0 rfl) ?_
              refine xr_call (va_runV (As := []) (rest := []) ⟨hx, hb, hml, hown, hts⟩ (c_X6_versionR l D cA (nm 0 0) (nm2 1 0) (nm2 1 1) (nm2 1 2) (nm2 9 0) (nm2 7 nV) d3 nV mc3) (cwV 0 hts gX6_remove_X6_version rfl rfl rfl (by decide +kernel) ⟨Nat.le_of_ble_eq_true rfl, Nat.le_of_ble_eq_true rfl⟩) (xPV hK hT3 rfl ⟨hT3, hO3⟩) rfl rfl hl.1 rfl (lv_room (Nat.le_of_ble_eq_true rfl)) dX6_remove_54 ⟨Nat.le_of_ble_eq_true rfl, Nat.le_of_ble_eq_true rfl⟩) ?_
              refine vx_ret ?_
              exact xw_iret hx hb hr hlocks hS ⟨(by unfold kRm; rw [show wrF (mS f) nL (nI ip1) (nI ip2) true p3 false = 0 from by rw [wr_ch hip1 b2 hip2 iLk rfl b_2, c_3]; rfl, if_pos rfl, cl_nI (by omega) (by omega)]; show (if f 7 (16 * ip1 + ip2) = 0 then (3 : Int32) else 0) = _; rw [if_neg k7]), (by rw [cl_nI (by omega) (by omega), show putV (mS f) nV (16 * ip1 + ip2) 0 = nV from if_pos he]), (by rw [cl_nI (by omega) (by omega), show putV (mS f) nV (16 * ip1 + ip2) 0 = nV from if_pos he, show putS (mS f) nV (16 * ip1 + ip2) 0 = mS f from if_pos he]; exact ⟨lab2, nm2, rf2, hV3, hl3, hIQ3, hz3, ho3⟩)⟩ (Nat.le_of_ble_eq_true rfl) (Nat.le_of_ble_eq_true rfl) dX6_remove_57
            · rw [if_neg he, if_neg (by decide)] at hJ
              obtain ⟨lab2, nm2, rf2, hV3, hl3, hIQ3, hz3, ho3⟩ := hJ
              have hT3 := hV3.1
              obtain ⟨mc3, d3, cap3, f3, hO3, -⟩ := hV3.2.2.2.1
              rw [ho3] at hT3
              refine lv_aload_n hx hb dX6_remove_53 rfl (lv_at hl 0 rfl) ?_
              refine xr_call (va_runV (As := []) (rest := []) ⟨hx, hb, hml, hown, hts⟩ (c_X6_versionR l D cA (nm 0 0) (nm2 1 0) (nm2 1 1) (nm2 1 2) (nm2 9 0) (nm2 7 (nV + 1)) d3 (nV + 1) mc3) (cwV 0 hts gX6_remove_X6_version rfl rfl rfl (by decide +kernel) ⟨Nat.le_of_ble_eq_true rfl, Nat.le_of_ble_eq_true rfl⟩) (xPV hK hT3 rfl ⟨hT3, hO3⟩) rfl rfl hl.1 rfl (lv_room (Nat.le_of_ble_eq_true rfl)) dX6_remove_54 ⟨Nat.le_of_ble_eq_true rfl, Nat.le_of_ble_eq_true rfl⟩) ?_
              refine vx_ret ?_
              exact xw_iret hx hb hr hlocks hS ⟨(by unfold kRm; rw [show wrF (mS f) nL (nI ip1) (nI ip2) true p3 false = 0 from by rw [wr_ch hip1 b2 hip2 iLk rfl b_2, c_3]; rfl, if_pos rfl, cl_nI (by omega) (by omega)]; show (if f 7 (16 * ip1 + ip2) = 0 then (3 : Int32) else 0) = _; rw [if_neg k7]), (by rw [cl_nI (by omega) (by omega), show putV (mS f) nV (16 * ip1 + ip2) 0 = nV + 1 from if_neg he]), (by rw [cl_nI (by omega) (by omega), show putV (mS f) nV (16 * ip1 + ip2) 0 = nV + 1 from if_neg he, ← ex_put (n := 16 * nL) (by omega) (by omega) he]; exact ⟨lab2, nm2, rf2, hV3, hl3, hIQ3, hz3, ho3⟩)⟩ (Nat.le_of_ble_eq_true rfl) (Nat.le_of_ble_eq_true rfl) dX6_remove_57
