set_option maxHeartbeats 4000000 in
set_option maxRecDepth 100000 in
theorem c_X6_client (l : Launch) (hst : l.stackTraces = false) (D : va_G) (cA : Nat → ClassId) (lab : Nat → Nat) (nm : Nat → Nat → Nat) (rf : Nat → Nat → Option Nat) (f : Nat → Nat → Int32) (nC nL nV : Nat) (hi : CRi f nC nL nV) (A : Nat → Prop) (hl9 : CRl A lab nm rf nC nL) (H9 : Heap) (p1 : Int32) (p2 : Int32) (hAn : ∀ q, H9.size ≤ q → A q) : vx_Met l yX6_client wsX6_client (rmK 41 6 1020) (xPX D cA (fun U => pK A (nm 12 0) U) [.ref (nm 0 0), .int p1, .int p2] (fun H => H = H9 ∧ CRv D cA lab nm rf f nC nL nV H ∧ IQ0 D cA nm H)) (xW (pJ (kCl nC p1 p2) (some (.int (nI nC))) (CS D cA A (nm 12 0) (nm 0 0) ((clS (mS f) nC p1 p2).2.1) (nC + 1) nL nV)) A) (xT (kCl nC p1 p2) (fun k => (if k = 1 then eA else eS)) (CS D cA A (nm 12 0) (nm 0 0) f nC nL nV) A) 6 1020 A := by
  refine vx_ofW (cc := cX6_client) (maxL := 3) (ret := (some .int)) (by decide) rfl ?_
  intro p e s m args below meth c s₁ B hml ht hv
  obtain ⟨rfl, ⟨hK, hX⟩, hI⟩ := hv
  have hx := B.exec
  have hb := B.bytes
  have hr := B.returns
  have hts := atoms_spec (ws := wsX6_client) B.pre
  have hown : s.vm.findClass RX6 = some m.cls := findClass_of_methodNamed B.named
  have hlocks := B.notSynchronized
  have hl := lv_entry ([.ref (nm 0 0), .int p1, .int p2]) (n := 3) (Nat.le_of_ble_eq_true rfl)
  rw [lg_entry_eq]
  generalize (lg_sl ([.ref (nm 0 0), .int p1, .int p2]) ++ List.replicate (3 - (lg_sl ([.ref (nm 0 0), .int p1, .int p2])).length) Slot.unset).toArray = ls at hl ⊢
  have hl : lv_has ls 3 [(0, .ref (nm 0 0)), (1, .int p1), (2, .int p2)] := hl
  have h_X0 : ∀ w ∈ wsX00, w ∈ wsX6_client := fun _ h => List.mem_cons_of_mem _ (List.mem_append_left _ (List.mem_append_left _ (List.mem_append_left _ (List.mem_append_right _ h))))
  have h_X6 : ∀ w ∈ wsX60, w ∈ wsX6_client := fun _ h => List.mem_cons_of_mem _ (List.mem_append_left _ (List.mem_append_left _ (List.mem_append_left _ (List.mem_append_left _ (List.mem_append_right _ h)))))
  have h_Jx4a65c : ∀ w ∈ wsJx4a65c0, w ∈ wsX6_client := fun _ h => List.mem_cons_of_mem _ (List.mem_append_left _ (List.mem_append_left _ (List.mem_append_right _ h)))
  obtain ⟨hH9, hI, hIQ⟩ := hI
  subst hH9
  have hV := hI
  have hi0 := hi
  obtain ⟨hT, ⟨mcC, dC, capC, fC, hOC, hQC, hnC, hcC, hfC, hdC, hzC⟩, ⟨mcL, dL, capL, fL, hOL, hQL, hnL, hcL, hfL, hdL, hzL⟩, ⟨mcV, dV, capV, fV, hOV, hQV, hnV, hcV, hfV, hdV, hzV⟩, hC, hL, hHo, hRo, hCh, hRl, hEn⟩ := hI
  obtain ⟨b1, b2, b3, iSel, iGd, iCur, iZero, iLk, iLkA, iLkB⟩ := hi
  have hS : va_S A s.heap s.heap [] := va_S.rf
  have hCS0 : CS D cA A (nm 12 0) (nm 0 0) f nC nL nV s.heap := ⟨lab, nm, rf, hV, hl9, hIQ, rfl, rfl⟩
  refine lv_iload_n hx hb dX6_client_0 rfl (lv_at hl 1 rfl) ?_
  refine xr_call (va_runS (As := [.int p1]) (rest := []) ⟨hx, hb, hml, hown, hts⟩ (c_X6_isArea l D cA p1) (va_cwS 1 hts gX6_client_X6_isArea rfl rfl rfl (by decide +kernel) ⟨Nat.le_of_ble_eq_true rfl, Nat.le_of_ble_eq_true rfl⟩) (xPS hK trivial) rfl rfl hl.1 rfl (lv_room (Nat.le_of_ble_eq_true rfl)) dX6_client_1 ⟨Nat.le_of_ble_eq_true rfl, Nat.le_of_ble_eq_true rfl⟩) ?_
  refine xb_eq (tgt := 18) hx hb dX6_client_4 (by decide) (fun c_1 => ?_) (fun c_1 => ?_)
  · refine lv_iconst (v := 0) hx hb dX6_client_18 (by decide) ?_
    refine xx_check (E0 := eA) (vx_runS (As := [.int 0]) (rest := []) ⟨hx, hb, hml, hown, hts⟩ (c_X6_checkArgument l hst D cA A false 0 (by decide)) (va_cwS 1 hts gX6_client_X6_checkArgument rfl rfl rfl (by decide +kernel) ⟨Nat.le_of_ble_eq_true rfl, Nat.le_of_ble_eq_true rfl⟩) (xPXS hK tK.blind (fun U hU hW => hX.2.at hS (fun _ h => h) hU hW) trivial) rfl rfl hl.1 rfl (lv_room (Nat.le_of_ble_eq_true rfl)) dX6_client_19 ⟨Nat.le_of_ble_eq_true rfl, Nat.le_of_ble_eq_true rfl⟩) hS (fun b_2 ce q9 H1 z1 k1 hS1 g1 g2 g3 => ?_) (fun b_2 => ?_)
    · have hk9 : kCl nC p1 p2 = 1 := by simp [kCl, c_1]
      exact vx_out (fun x hx => (ht x hx).elim) hlocks g1 g2 g3 (fun t ht9 _ => ⟨by rw [hk9]; decide, by rw [hk9] <;> rfl, by rw [ht9]; exact hCS0.same (fun q h1 _ => k1 q h1), hS1.F ht9⟩) hS1.2.2 (Nat.le_of_ble_eq_true rfl) (Nat.le_of_ble_eq_true rfl)
    · exact absurd b_2 (by decide)
  · refine lv_iload_n hx hb dX6_client_7 rfl (lv_at hl 2 rfl) ?_
    refine xr_call (va_runS (As := [.int p2]) (rest := []) ⟨hx, hb, hml, hown, hts⟩ (c_X6_isArea l D cA p2) (va_cwS 1 hts gX6_client_X6_isArea rfl rfl rfl (by decide +kernel) ⟨Nat.le_of_ble_eq_true rfl, Nat.le_of_ble_eq_true rfl⟩) (xPS hK trivial) rfl rfl hl.1 rfl (lv_room (Nat.le_of_ble_eq_true rfl)) dX6_client_8 ⟨Nat.le_of_ble_eq_true rfl, Nat.le_of_ble_eq_true rfl⟩) ?_
    refine xb_eq (tgt := 18) hx hb dX6_client_11 (by decide) (fun c_3 => ?_) (fun c_3 => ?_)
    · refine lv_iconst (v := 0) hx hb dX6_client_18 (by decide) ?_
      refine xx_check (E0 := eA) (vx_runS (As := [.int 0]) (rest := []) ⟨hx, hb, hml, hown, hts⟩ (c_X6_checkArgument l hst D cA A false 0 (by decide)) (va_cwS 1 hts gX6_client_X6_checkArgument rfl rfl rfl (by decide +kernel) ⟨Nat.le_of_ble_eq_true rfl, Nat.le_of_ble_eq_true rfl⟩) (xPXS hK tK.blind (fun U hU hW => hX.2.at hS (fun _ h => h) hU hW) trivial) rfl rfl hl.1 rfl (lv_room (Nat.le_of_ble_eq_true rfl)) dX6_client_19 ⟨Nat.le_of_ble_eq_true rfl, Nat.le_of_ble_eq_true rfl⟩) hS (fun b_4 ce q9 H1 z1 k1 hS1 g1 g2 g3 => ?_) (fun b_4 => ?_)
      · have hk9 : kCl nC p1 p2 = 1 := by simp [kCl, c_1, c_3]
        exact vx_out (fun x hx => (ht x hx).elim) hlocks g1 g2 g3 (fun t ht9 _ => ⟨by rw [hk9]; decide, by rw [hk9] <;> rfl, by rw [ht9]; exact hCS0.same (fun q h1 _ => k1 q h1), hS1.F ht9⟩) hS1.2.2 (Nat.le_of_ble_eq_true rfl) (Nat.le_of_ble_eq_true rfl)
      · exact absurd b_4 (by decide)
    · refine lv_iconst (v := 1) hx hb dX6_client_14 (by decide) ?_
      refine lv_goto (tgt := 19) hx hb dX6_client_15 (by decide) ?_
      refine xx_check (E0 := eA) (vx_runS (As := [.int 1]) (rest := []) ⟨hx, hb, hml, hown, hts⟩ (c_X6_checkArgument l hst D cA A true 1 (by decide)) (va_cwS 1 hts gX6_client_X6_checkArgument rfl rfl rfl (by decide +kernel) ⟨Nat.le_of_ble_eq_true rfl, Nat.le_of_ble_eq_true rfl⟩) (xPXS hK tK.blind (fun U hU hW => hX.2.at hS (fun _ h => h) hU hW) trivial) rfl rfl hl.1 rfl (lv_room (Nat.le_of_ble_eq_true rfl)) dX6_client_19 ⟨Nat.le_of_ble_eq_true rfl, Nat.le_of_ble_eq_true rfl⟩) hS (fun b_5 ce q9 H1 z1 k1 hS1 g1 g2 g3 => ?_) (fun b_5 => ?_)
      · exact absurd b_5 (by decide)
      · have _b_5 := b_5
        refine lv_aload_n hx hb dX6_client_22 rfl (lv_at hl 0 rfl) ?_
        refine x_get (v := .ref (nm 1 0)) hx hb hts h_X6 hown hK hT rfl 0 (by decide) (hts (.fieldLink RX6 10 "ConfigBeacon" "allClients" "Ljava/util/ArrayList;") (by decide +kernel)) (fun _ h => h) rfl dX6_client_23 ?_
        refine xr_call (va_runV (As := []) (rest := []) ⟨hx, hb, hml, hown, hts⟩ (c_Jx4a65c_size_8abf5 l D cA (nm 1 0) mcC dC nC) (cwV 0 hts gX6_client_Jx4a65c_size_8abf5 rfl rfl rfl (by decide +kernel) ⟨Nat.le_of_ble_eq_true rfl, Nat.le_of_ble_eq_true rfl⟩) (xPV hK hOC rfl hOC) rfl rfl hl.1 rfl (lv_room (Nat.le_of_ble_eq_true rfl)) dX6_client_26 ⟨Nat.le_of_ble_eq_true rfl, Nat.le_of_ble_eq_true rfl⟩) ?_
        refine lv_bipush (v := 12) hx hb dX6_client_29 (by decide) ?_
        refine lv_icmp_ge (tgt := 38) hx hb dX6_client_31 (by decide) (fun c_6 => ?_) (fun c_6 => ?_)
        · have n_6 : 12 ≤ nC := (nI_leI (a := 12) (b := nC) (by omega) (by omega)).mp c_6
          have k12 : nI nC = 12 := by rw [show nC = 12 from by omega]; rfl
          refine lv_iconst (v := 0) hx hb dX6_client_38 (by decide) ?_
          refine xx_check (E0 := eS) (vx_runS (As := [.int 0]) (rest := []) ⟨hx, hb, hml, hown, hts⟩ (c_X6_checkState l hst D cA A false 0 (by decide)) (va_cwS 1 hts gX6_client_X6_checkState rfl rfl rfl (by decide +kernel) ⟨Nat.le_of_ble_eq_true rfl, Nat.le_of_ble_eq_true rfl⟩) (xPXS hK tK.blind (fun U hU hW => hX.2.at hS (fun _ h => h) hU hW) trivial) rfl rfl hl.1 rfl (lv_room (Nat.le_of_ble_eq_true rfl)) dX6_client_39 ⟨Nat.le_of_ble_eq_true rfl, Nat.le_of_ble_eq_true rfl⟩) hS (fun b_7 ce q9 H1 z1 k1 hS1 g1 g2 g3 => ?_) (fun b_7 => ?_)
          · have hk9 : kCl nC p1 p2 = 2 := by simp [kCl, c_1, c_3, n_6, Int32.not_lt.mpr c_6, k12]
            exact vx_out (fun x hx => (ht x hx).elim) hlocks g1 g2 g3 (fun t ht9 _ => ⟨by rw [hk9]; decide, by rw [hk9] <;> rfl, by rw [ht9]; exact hCS0.same (fun q h1 _ => k1 q h1), hS1.F ht9⟩) hS1.2.2 (Nat.le_of_ble_eq_true rfl) (Nat.le_of_ble_eq_true rfl)
          · exact absurd b_7 (by decide)
        · have n_6 : nC < 12 := Nat.not_le.mp (fun q => c_6 ((nI_leI (a := 12) (b := nC) (by omega) (by omega)).mpr q))
          have k12 : ¬ nI nC = 12 := fun q => by have := nI_inj2 (a := nC) (b := 12) (by omega) (by omega) q; omega
          refine lv_iconst (v := 1) hx hb dX6_client_34 (by decide) ?_
          refine lv_goto (tgt := 39) hx hb dX6_client_35 (by decide) ?_
          refine xx_check (E0 := eS) (vx_runS (As := [.int 1]) (rest := []) ⟨hx, hb, hml, hown, hts⟩ (c_X6_checkState l hst D cA A true 1 (by decide)) (va_cwS 1 hts gX6_client_X6_checkState rfl rfl rfl (by decide +kernel) ⟨Nat.le_of_ble_eq_true rfl, Nat.le_of_ble_eq_true rfl⟩) (xPXS hK tK.blind (fun U hU hW => hX.2.at hS (fun _ h => h) hU hW) trivial) rfl rfl hl.1 rfl (lv_room (Nat.le_of_ble_eq_true rfl)) dX6_client_39 ⟨Nat.le_of_ble_eq_true rfl, Nat.le_of_ble_eq_true rfl⟩) hS (fun b_8 ce q9 H1 z1 k1 hS1 g1 g2 g3 => ?_) (fun b_8 => ?_)
          · exact absurd b_8 (by decide)
          · have _b_8 := b_8
            refine lv_aload_n hx hb dX6_client_42 rfl (lv_at hl 0 rfl) ?_
            refine x_get (v := .ref (nm 1 0)) hx hb hts h_X6 hown hK hT rfl 0 (by decide) (hts (.fieldLink RX6 10 "ConfigBeacon" "allClients" "Ljava/util/ArrayList;") (by decide +kernel)) (fun _ h => h) rfl dX6_client_43 ?_
            have hsz0 := hS.1
            have hold : ∀ x : Nat, x < s.heap.size → s.heap[x]? = s.heap[x]? := fun _ _ => rfl
            refine xn_o (ci := 1) hx hb hts h_X0 tyX0 tyX0_ok hown (hts (.classLink RX6 55 RX0) (by decide +kernel)) (hts (.instantiable RX0 2) (by decide +kernel)) (hts (.initialized RX0) (by decide +kernel)) hK hS rfl [.int 0, .int 0] (fun j hj => by rcases (show j = 0 ∨ j = 1 from by omega) with rfl | rfl <;> rfl) (Nat.le_of_ble_eq_true rfl) (Nat.le_of_ble_eq_true rfl) dX6_client_46 (fun q1 H hq1 gq1 hN1 zN oN hS => ?_)
            have hAq1 : A q1 := hAn _ gq1
            have hold : ∀ x : Nat, x < s.heap.size → H[x]? = s.heap[x]? := fun x hx => (oN x (Nat.lt_of_lt_of_le hx hsz0)).trans (hold x hx)
            refine lv_dup hx hb dX6_client_49 rfl ?_
            refine lv_iload_n hx hb dX6_client_50 rfl (lv_at hl 1 rfl) ?_
            refine lv_iload_n hx hb dX6_client_51 rfl (lv_at hl 2 rfl) ?_
            have hsz0 := hS.1
            refine xw_calln (va_runI (As := [.int p1, .int p2]) (rest := [.ref q1, .ref (nm 1 0)]) ⟨hx, hb, hml, hown, hts⟩ (c_X0_init l D cA q1 H p1 p2) (cwI 2 hts gX6_client_X0_init rfl rfl rfl (hts (.initialized RX0) (by decide +kernel)) (hts (.methodLink RX6 57 yX0_init) (by decide +kernel)) (hts (.instanceMethod yX0_init) (by decide +kernel)) rfl (by decide +kernel) ⟨Nat.le_of_ble_eq_true rfl, Nat.le_of_ble_eq_true rfl⟩) (xPS hK ⟨rfl, hN1⟩) rfl rfl hl.1 rfl (lv_room (Nat.le_of_ble_eq_true rfl)) dX6_client_52 ⟨Nat.le_of_ble_eq_true rfl, Nat.le_of_ble_eq_true rfl⟩) hS (fun z _ h => by rw [show z = q1 from h]; exact hAq1) (fun z h => by rw [show z = q1 from h]; exact hAq1) (fun H locs hN1 z9 q9 hS => ?_)
            have hold : ∀ x : Nat, x < s.heap.size → H[x]? = s.heap[x]? := fun x hx => (q9 x (Nat.lt_of_lt_of_le hx hsz0) (show ¬ x = q1 from by omega)).trans (hold x hx)
            have hAl : A (nm 1 0) := hl9.1 _ (by rw [hl9.2.2.1]; omega)
            have hal := x_lt hOC
            have hdl : 0 < nC → dC < s.heap.size := fun h => q_lt (hQC h)
            have hne9 : ¬ (nm 1 0) = dC := fun e => by
              rcases Nat.eq_zero_or_pos nC with h0 | h0
              · exact hX.1.not (by rw [← hzC h0, ← e]; exact hAl)
              · have h1 := hdC h0
                rw [← e, hl9.2.2.1] at h1
                omega
            have hOl := va_at.kept hOC (hold _ hal)
            have hQl : 0 < nC → xQ (cA 4) dC capC fC H := fun h => x_kept (hQC h) (hold _ (hdl h))
            have hEl : ∀ j, j < nC → ∀ y, fC j = some y → ¬ y = (nm 1 0) ∧ ∃ fs, xO D y 1 fs H := fun j hj y hy => by
              rw [hfC j hj] at hy
              cases hy
              refine ⟨fun e => ?_, _, va_at.kept (hC j (by omega)) (hold _ (x_lt (hC j (by omega))))⟩
              have h1 := hl9.2.2.2.2.2.2.2.1 j (by omega)
              rw [e, hl9.2.2.1] at h1
              omega
            have hsz := hS.1
            have hBA : ∀ q, (q = (nm 1 0) ∨ (0 < nC ∧ q = dC) ∨ H.size ≤ q) → A q := fun q h => by
              rcases h with h | h | h
              · rw [h]; exact hAl
              · rw [h.2]; exact hl9.1 _ (by rw [hdC h.1]; omega)
              · exact hAn _ (Nat.le_trans hsz h)
            have hwlt := x_lt hN1
            refine xw_calls (va_runV (As := [.ref q1]) (rest := []) ⟨hx, hb, hml, hown, hts⟩ (c_Jx4a65c_add_9ea2d l D cA (nm 1 0) dC nC capC (nm 12 0) mcC fC (by omega) hcC hnC hne9 hzC 1 (RX0, TX0, 2) rfl (by decide) H q1 _ (by omega) (fun h => by have := hdl h; omega)) (cwV 1 hts gX6_client_Jx4a65c_add_9ea2d rfl rfl rfl (by decide +kernel) ⟨Nat.le_of_ble_eq_true rfl, Nat.le_of_ble_eq_true rfl⟩) (xPXV hK zK.blind (fun U hU hW => hX.1.at hS hBA hU hW) hOl rfl ⟨rfl, hOl, hQl, hN1, hEl⟩) rfl rfl hl.1 rfl (lv_room (Nat.le_of_ble_eq_true rfl)) dX6_client_55 ⟨Nat.le_of_ble_eq_true rfl, Nat.le_of_ble_eq_true rfl⟩) hS (fun q _ h => hBA q h) (fun q h => hBA q h) (fun H9 locs hP z9 q9 hS => ?_)
            obtain ⟨dq, cap2, f2, hd9, hO9, hQ9, r1, r2, r3, r4⟩ := hP
            have hfr : ∀ q : Nat, q < s.heap.size → q ≠ (nm 1 0) → lab q ≠ 5 → H9[q]? = s.heap[q]? := fun q h1 h2 h3 => (q9 q (Nat.lt_of_lt_of_le h1 hsz) (fun h => h.elim h2 (fun h => h.elim (fun h => h3 (by rw [h.2]; exact hdC h.1)) (fun h => by omega)))).trans (hold q h1)
            have hNk : ∀ x : Nat, s.heap.size ≤ x → x < H.size → H9[x]? = H[x]? := fun x h1 h2 => q9 x h2 (fun h => h.elim (fun e => by omega) (fun h => h.elim (fun h => by have := hdl h.1; omega) (fun h => by omega)))
            have hT := va_at.kept hT (hfr _ (x_lt hT) (fun e => by have h1 := hl9.2.1; rw [show nm 0 0 = (nm 1 0) from e, hl9.2.2.1] at h1; omega) (by rw [show lab (nm 0 0) = 1 from hl9.2.1]; omega))
            refine lv_pop hx hb dX6_client_58 rfl ?_
            refine lv_aload_n hx hb dX6_client_59 rfl (lv_at hl 0 rfl) ?_
            refine x_get (v := .ref (nm 1 0)) hx hb hts h_X6 hown hK hT rfl 0 (by decide) (hts (.fieldLink RX6 10 "ConfigBeacon" "allClients" "Ljava/util/ArrayList;") (by decide +kernel)) (fun _ h => h) rfl dX6_client_60 ?_
            refine xr_call (va_runV (As := []) (rest := []) ⟨hx, hb, hml, hown, hts⟩ (c_Jx4a65c_size_8abf5 l D cA (nm 1 0) (mcC + 1) dq (nC + 1)) (cwV 0 hts gX6_client_Jx4a65c_size_8abf5 rfl rfl rfl (by decide +kernel) ⟨Nat.le_of_ble_eq_true rfl, Nat.le_of_ble_eq_true rfl⟩) (xPV hK hO9 rfl hO9) rfl rfl hl.1 rfl (lv_room (Nat.le_of_ble_eq_true rfl)) dX6_client_63 ⟨Nat.le_of_ble_eq_true rfl, Nat.le_of_ble_eq_true rfl⟩) ?_
            refine lv_iconst (v := 1) hx hb dX6_client_66 (by decide) ?_
            refine xe_isub hx hb (pk_sub (a := nC + 1) (b := 1) (by omega)) dX6_client_67 ?_
            refine vx_ret ?_
            exact xw_iret hx hb hr hlocks hS ⟨(by simp [kCl, c_1, c_3, n_6, Int32.not_le.mp c_6, k12]), rfl, (cl_CS hV hl9 hIQ b2 (by omega) hfr hO9 hQ9 r1 r2 (fun j hj => (r3 j hj).trans (hfC j hj)) r4 (hd9.elim (fun h => Or.inl (by rw [h.2]; exact hdC h.1)) (fun h => Or.inr (Nat.le_trans hsz h))) gq1 (fun e => hd9.elim (fun h => by have := hdl h.1; omega) (fun h => by omega)) hAq1 (hd9.elim (fun h => hl9.1 _ (by rw [h.2, hdC h.1]; omega)) (fun h => hAn _ (Nat.le_trans hsz h))) (va_at.kept hN1 (hNk _ gq1 hwlt)))⟩ (Nat.le_of_ble_eq_true rfl) (Nat.le_of_ble_eq_true rfl) dX6_client_68
