set_option maxHeartbeats 4000000 in
set_option maxRecDepth 100000 in
theorem c_X6_found (l : Launch) (hst : l.stackTraces = false) (D : va_G) (cA : Nat → ClassId) (lab : Nat → Nat) (nm : Nat → Nat → Nat) (rf : Nat → Nat → Option Nat) (f : Nat → Nat → Int32) (nC nL nV : Nat) (hi : CRi f nC nL nV) (A : Nat → Prop) (hl9 : CRl A lab nm rf nC nL) (H9 : Heap) (p1 : Int32) : vx_Met l yX6_found wsX6_found (rmK 41 3 18) (xPX D cA (fun U => pK A (nm 12 0) U) [.ref (nm 0 0), .int p1] (fun H => H = H9 ∧ CRv D cA lab nm rf f nC nL nV H ∧ IQ0 D cA nm H)) (xW (pJ (kF1 nC p1) (some (.int (fnF (fun b => decide (akT (akE (mS f) (ix p1) none nL b) = 0)) 16))) (CS D cA A (nm 12 0) (nm 0 0) f nC nL nV)) A) (xT (kF1 nC p1) (fun k => eI) (CS D cA A (nm 12 0) (nm 0 0) f nC nL nV) A) 3 18 A := by
  refine vx_ofW (cc := cX6_found) (maxL := 4) (ret := (some .int)) (by decide) rfl ?_
  intro p e s m args below meth c s₁ B hml ht hv
  obtain ⟨rfl, ⟨hK, hX⟩, hI⟩ := hv
  have hx := B.exec
  have hb := B.bytes
  have hr := B.returns
  have hts := atoms_spec (ws := wsX6_found) B.pre
  have hown : s.vm.findClass RX6 = some m.cls := findClass_of_methodNamed B.named
  have hlocks := B.notSynchronized
  have hl := lv_entry ([.ref (nm 0 0), .int p1]) (n := 4) (Nat.le_of_ble_eq_true rfl)
  rw [lg_entry_eq]
  generalize (lg_sl ([.ref (nm 0 0), .int p1]) ++ List.replicate (4 - (lg_sl ([.ref (nm 0 0), .int p1])).length) Slot.unset).toArray = ls at hl ⊢
  have hl : lv_has ls 4 [(0, .ref (nm 0 0)), (1, .int p1)] := hl
  have h_X0 : ∀ w ∈ wsX00, w ∈ wsX6_found := fun _ h => List.mem_cons_of_mem _ (List.mem_append_left _ (List.mem_append_left _ (List.mem_append_left _ (List.mem_append_right _ h))))
  have h_X1 : ∀ w ∈ wsX10, w ∈ wsX6_found := fun _ h => List.mem_cons_of_mem _ (List.mem_append_left _ (List.mem_append_right _ h))
  have h_X2 : ∀ w ∈ wsX20, w ∈ wsX6_found := fun _ h => List.mem_cons_of_mem _ (List.mem_append_left _ (List.mem_append_left _ (List.mem_append_left _ (List.mem_append_left _ (List.mem_append_left _ (List.mem_append_right _ h))))))
  have h_X3 : ∀ w ∈ wsX30, w ∈ wsX6_found := fun _ h => List.mem_cons_of_mem _ (List.mem_append_left _ (List.mem_append_left _ (List.mem_append_left _ (List.mem_append_left _ (List.mem_append_left _ (List.mem_append_left _ (List.mem_append_left _ (List.mem_append_right _ h))))))))
  have h_X4 : ∀ w ∈ wsX40, w ∈ wsX6_found := fun _ h => List.mem_cons_of_mem _ (List.mem_append_left _ (List.mem_append_left _ (List.mem_append_left _ (List.mem_append_left _ (List.mem_append_right _ h)))))
  have h_X5 : ∀ w ∈ wsX50, w ∈ wsX6_found := fun _ h => List.mem_cons_of_mem _ (List.mem_append_left _ (List.mem_append_left _ (List.mem_append_right _ h)))
  have h_X6 : ∀ w ∈ wsX60, w ∈ wsX6_found := fun _ h => List.mem_cons_of_mem _ (List.mem_append_left _ (List.mem_append_left _ (List.mem_append_left _ (List.mem_append_left _ (List.mem_append_left _ (List.mem_append_left _ (List.mem_append_left _ (List.mem_append_left _ (List.mem_append_right _ h)))))))))
  have h_Jx4a65c : ∀ w ∈ wsJx4a65c0, w ∈ wsX6_found := fun _ h => List.mem_cons_of_mem _ (List.mem_append_left _ (List.mem_append_left _ (List.mem_append_left _ (List.mem_append_left _ (List.mem_append_left _ (List.mem_append_left _ (List.mem_append_right _ h)))))))
  obtain ⟨hH9, hI, hIQ⟩ := hI
  subst hH9
  have hV := hI
  have hi0 := hi
  obtain ⟨hT, ⟨mcC, dC, capC, fC, hOC, hQC, hnC, hcC, hfC, -⟩, ⟨mcL, dL, capL, fL, hOL, hQL, hnL, hcL, hfL, -⟩, ⟨mcV, dV, capV, fV, hOV, hQV, hnV, hcV, hfV, -⟩, hC, hL, hHo, hRo, hCh, hRl, hEn⟩ := hI
  obtain ⟨b1, b2, b3, iSel, iGd, iCur, iZero, iLk, iLkA, iLkB⟩ := hi
  have hS : va_S A s.heap s.heap [] := va_S.rf
  have hCS0 : CS D cA A (nm 12 0) (nm 0 0) f nC nL nV s.heap := ⟨lab, nm, rf, hV, hl9, hIQ, rfl, rfl⟩
  have hA9 : ∀ q, A9 nm q → A q := fun q h => hl9.1 q (by rcases h with h | h <;> rw [h] <;> first | (rw [hl9.2.2.2.2.2.1]; omega) | (rw [hl9.2.2.2.2.2.2.1]; omega))
  refine lv_aload_n hx hb dX6_found_0 rfl (lv_at hl 0 rfl) ?_
  refine lv_iload_n hx hb dX6_found_1 rfl (lv_at hl 1 rfl) ?_
  refine xr_call (va_runV (As := [.int p1]) (rest := []) ⟨hx, hb, hml, hown, hts⟩ (c_X6_isClient l D cA lab nm rf f nC nL nV (⟨b1, b2, b3, iSel, iGd, iCur, iZero, iLk, iLkA, iLkB⟩) p1) (cwV 1 hts gX6_found_X6_isClient rfl rfl rfl (by decide +kernel) ⟨Nat.le_of_ble_eq_true rfl, Nat.le_of_ble_eq_true rfl⟩) (xPV hK hT rfl hV) rfl rfl hl.1 rfl (lv_room (Nat.le_of_ble_eq_true rfl)) dX6_found_2 ⟨Nat.le_of_ble_eq_true rfl, Nat.le_of_ble_eq_true rfl⟩) ?_
  refine xx_check (E0 := eI) (vx_runS (As := [.int (bI (okN nC p1))]) (rest := []) ⟨hx, hb, hml, hown, hts⟩ (c_X6_checkThere l hst D cA A (okN nC p1) (bI (okN nC p1)) rfl) (va_cwS 1 hts gX6_found_X6_checkThere rfl rfl rfl (by decide +kernel) ⟨Nat.le_of_ble_eq_true rfl, Nat.le_of_ble_eq_true rfl⟩) (xPXS hK tK.blind (fun U hU hW => hX.2.at hS (fun _ h => h) hU hW) trivial) rfl rfl hl.1 rfl (lv_room (Nat.le_of_ble_eq_true rfl)) dX6_found_5 ⟨Nat.le_of_ble_eq_true rfl, Nat.le_of_ble_eq_true rfl⟩) hS (fun b_1 ce q9 H1 z1 k1 hS1 g1 g2 g3 => ?_) (fun b_1 => ?_)
  · have hk9 : kF1 nC p1 = 1 := by simp [kF1, b_1]
    exact vx_out (fun x hx => (ht x hx).elim) hlocks g1 g2 g3 (fun t ht9 _ => ⟨by rw [hk9]; decide, by rw [hk9] <;> rfl, by rw [ht9]; exact hCS0.same (fun q h1 _ => k1 q h1), hS1.F ht9⟩) hS1.2.2 (Nat.le_of_ble_eq_true rfl) (Nat.le_of_ble_eq_true rfl)
  · have _b_1 := b_1
    obtain ⟨ip1, hip1, ep1⟩ := okN_of (n := nC) (v := p1) (by omega) (by have h9 := b_1; (try simp only [Bool.and_eq_true] at h9); simp [h9])
    subst ep1
    refine lv_iconst (v := 0) hx hb dX6_found_8 (by decide) ?_
    refine lv_istore_n (lv' := [(2, .int 0), (0, .ref (nm 0 0)), (1, .int (nI ip1))]) hx hb dX6_found_9 rfl hl (by decide) rfl (fun ls hl => ?_)
    refine lv_iconst (v := 0) hx hb dX6_found_10 (by decide) ?_
    refine lv_istore_n (lv' := [(3, .int 0), (2, .int 0), (0, .ref (nm 0 0)), (1, .int (nI ip1))]) hx hb dX6_found_11 rfl hl (by decide) rfl (fun ls hl => ?_)
    refine w_loop (fun (i : Nat) H locs ls => i ≤ 16 ∧ CRv D cA lab nm rf f nC nL nV H ∧ IQ0 D cA nm H ∧ va_S A s.heap H locs ∧ lv_has ls 4 [(0, .ref (nm 0 0)), (1, .int (nI ip1)), (2, .int (fnF (fun b => decide (akT (akE (mS f) ip1 none nL b) = 0)) i)), (3, .int (nI i))]) (fun i => 16 - i) ?_ 0 ⟨Nat.zero_le _, hV, hIQ, hS, lv_sub hl [2, 3, 1, 0] rfl⟩
    intro i H locs ls h9 ih
    obtain ⟨hi9, hV, hIQ, hS, hl⟩ := h9
    have hCS0 : CS D cA A (nm 12 0) (nm 0 0) f nC nL nV H := ⟨lab, nm, rf, hV, hl9, hIQ, rfl, rfl⟩
    have hI9 := hV
    obtain ⟨hT, ⟨mcC, dC, capC, fC, hOC, hQC, hnC, hcC, hfC, -⟩, ⟨mcL, dL, capL, fL, hOL, hQL, hnL, hcL, hfL, -⟩, ⟨mcV, dV, capV, fV, hOV, hQV, hnV, hcV, hfV, -⟩, hC, hL, hHo, hRo, hCh, hRl, hEn⟩ := hI9
    refine lv_iload_n hx hb dX6_found_12 rfl (lv_at hl 3 rfl) ?_
    refine lv_bipush (v := 16) hx hb dX6_found_13 (by decide) ?_
    refine lv_icmp_ge (tgt := 47) hx hb dX6_found_15 (by decide) (fun c_2 => ?_) (fun c_2 => ?_)
    · have n_2 : 16 ≤ i := (nI_leI (a := 16) (b := i) (by omega) (by omega)).mp c_2
      refine lv_iload_n hx hb dX6_found_47 rfl (lv_at hl 2 rfl) ?_
      refine vx_ret ?_
      exact xw_iret hx hb hr hlocks hS ⟨(by simp [kF1, ix_nI (show ip1 < 65536 by omega), b_1]), (by rw [ix_nI (show ip1 < 65536 by omega), show i = 16 by omega]), hCS0⟩ (Nat.le_of_ble_eq_true rfl) (Nat.le_of_ble_eq_true rfl) dX6_found_48
    · have n_2 : i < 16 := Nat.not_le.mp (fun q => c_2 ((nI_leI (a := 16) (b := i) (by omega) (by omega)).mpr q))
      refine lv_aload_n hx hb dX6_found_18 rfl (lv_at hl 0 rfl) ?_
      refine lv_iload_n hx hb dX6_found_19 rfl (lv_at hl 1 rfl) ?_
      refine lv_iload_n hx hb dX6_found_20 rfl (lv_at hl 3 rfl) ?_
      refine xw_calln (va_runV (As := [.int (nI ip1), .int (nI i)]) (rest := []) ⟨hx, hb, hml, hown, hts⟩ (c_X6_ask l D cA lab nm rf f nC nL nV hi0 A hl9 ip1 i (by omega) (by omega)) (cwV 2 hts gX6_found_X6_ask rfl rfl rfl (by decide +kernel) ⟨Nat.le_of_ble_eq_true rfl, Nat.le_of_ble_eq_true rfl⟩) (xPV hK hT rfl ⟨hV, hIQ⟩) rfl rfl hl.1 rfl (lv_room (Nat.le_of_ble_eq_true rfl)) dX6_found_21 ⟨Nat.le_of_ble_eq_true rfl, Nat.le_of_ble_eq_true rfl⟩) hS (fun q _ h => hA9 q h) (fun q h => hA9 q h) (fun H locs hJ z9 q9 hS => ?_)
      obtain ⟨hV, uw3, kn3, oc3, fa3, g3, hQ3, eN3, eS3⟩ := hJ
      have hIQ : IQ0 D cA nm H := ⟨_, some _, _, _, _, _, _, _, _, hQ3.1.1, hQ3.2⟩
      have hCS0 : CS D cA A (nm 12 0) (nm 0 0) f nC nL nV H := ⟨lab, nm, rf, hV, hl9, hIQ, rfl, rfl⟩
      have hI9 := hV
      obtain ⟨hT, ⟨mcC, dC, capC, fC, hOC, hQC, hnC, hcC, hfC, -⟩, ⟨mcL, dL, capL, fL, hOL, hQL, hnL, hcL, hfL, -⟩, ⟨mcV, dV, capV, fV, hOV, hQV, hnV, hcV, hfV, -⟩, hC, hL, hHo, hRo, hCh, hRl, hEn⟩ := hI9
      have hT3 : akT (cvE f ip1 none nL i) = oc3 := (ak_oc eN3 eS3).symm
      refine lv_aload_n hx hb dX6_found_24 rfl (lv_at hl 0 rfl) ?_
      refine x_get (v := .ref (nm 9 0)) hx hb hts h_X6 hown hK hT rfl 3 (by decide) (hts (.fieldLink RX6 25 "ConfigBeacon" "inquiry" "LConfigBeacon$Inquiry;") (by decide +kernel)) (fun _ h => h) rfl dX6_found_25 ?_
      refine x_getN (v := .int oc3) hx hb hts h_X3 hown hK hQ3.1.1 rfl 7 (by decide) (va_Nw.use rfl (hK.2.2.1 ("ConfigBeacon", 210, "ConfigBeacon$Inquiry", "outcome", "I") (by decide))) (fun _ h => h) rfl dX6_found_28 ?_
      refine lv_if_ne (tgt := 41) hx hb dX6_found_31 (by decide) (fun c_4 => ?_) (fun c_4 => ?_)
      · have ed9 : ((fnF (fun b => decide (akT (akE (mS f) ip1 none nL b) = 0)) i) : Int32) = (fnF (fun b => decide (akT (akE (mS f) ip1 none nL b) = 0)) (i + 1)) := by rw [fnF_f (p := (fun b => decide (akT (akE (mS f) ip1 none nL b) = 0))) (by show decide (akT (cvE f ip1 none nL i) = 0) = false; rw [hT3]; simp [c_4]), Int32.or_zero]
        rw [ed9] at hl
        refine lv_iinc (v := (nI (i + 1))) (lv' := [(3, .int (nI (i + 1))), (0, .ref (nm 0 0)), (1, .int (nI ip1)), (2, .int (fnF (fun b => decide (akT (akE (mS f) ip1 none nL b) = 0)) (i + 1)))]) hx hb dX6_found_41 hl (k := 3) rfl (ni_inc i) (by decide) rfl (fun ls hl => ?_)
        refine lv_goto (tgt := 12) hx hb dX6_found_44 (by decide) ?_
        exact ih (i + 1) _ _ _ ⟨by omega, hV, hIQ, hS, lv_sub hl [1, 2, 3, 0] rfl⟩ (by omega)
      · refine lv_iload_n hx hb dX6_found_34 rfl (lv_at hl 2 rfl) ?_
        refine lv_iload_n hx hb dX6_found_35 rfl (lv_at hl 3 rfl) ?_
        refine xr_call (va_runS (As := [.int (nI i)]) (rest := [.int (fnF (fun b => decide (akT (akE (mS f) ip1 none nL b) = 0)) i)]) ⟨hx, hb, hml, hown, hts⟩ (c_X6_bit l D cA i) (va_cwS 1 hts gX6_found_X6_bit rfl rfl rfl (by decide +kernel) ⟨Nat.le_of_ble_eq_true rfl, Nat.le_of_ble_eq_true rfl⟩) (xPS hK trivial) rfl rfl hl.1 rfl (lv_room (Nat.le_of_ble_eq_true rfl)) dX6_found_36 ⟨Nat.le_of_ble_eq_true rfl, Nat.le_of_ble_eq_true rfl⟩) ?_
        refine lv_ior hx hb dX6_found_39 ?_
        refine lv_istore_n (lv' := [(2, .int ((fnF (fun b => decide (akT (akE (mS f) ip1 none nL b) = 0)) i) ||| (bitI i))), (0, .ref (nm 0 0)), (1, .int (nI ip1)), (3, .int (nI i))]) hx hb dX6_found_40 rfl hl (by decide) rfl (fun ls hl => ?_)
        have ed9 : (((fnF (fun b => decide (akT (akE (mS f) ip1 none nL b) = 0)) i) ||| (bitI i)) : Int32) = (fnF (fun b => decide (akT (akE (mS f) ip1 none nL b) = 0)) (i + 1)) := by rw [fnF_t (p := (fun b => decide (akT (akE (mS f) ip1 none nL b) = 0))) (by show decide (akT (cvE f ip1 none nL i) = 0) = true; rw [hT3]; simp [c_4])]
        rw [ed9] at hl
        refine lv_iinc (v := (nI (i + 1))) (lv' := [(3, .int (nI (i + 1))), (2, .int (fnF (fun b => decide (akT (akE (mS f) ip1 none nL b) = 0)) (i + 1))), (0, .ref (nm 0 0)), (1, .int (nI ip1))]) hx hb dX6_found_41 hl (k := 3) rfl (ni_inc i) (by decide) rfl (fun ls hl => ?_)
        refine lv_goto (tgt := 12) hx hb dX6_found_44 (by decide) ?_
        exact ih (i + 1) _ _ _ ⟨by omega, hV, hIQ, hS, lv_sub hl [2, 3, 1, 0] rfl⟩ (by omega)
set_option maxHeartbeats 4000000 in
set_option maxRecDepth 100000 in
theorem c_X6_differIn (l : Launch) (D : va_G) (cA : Nat → ClassId) (lab : Nat → Nat) (nm : Nat → Nat → Nat) (rf : Nat → Nat → Option Nat) (f : Nat → Nat → Int32) (nC nL nV : Nat) (hi : CRi f nC nL nV) (A : Nat → Prop) (hl9 : CRl A lab nm rf nC nL) (a9 b9 j9 : Nat) (ha9 : a9 < nC) (hb9 : b9 < nC) (hj9 : j9 < 16) : Met l yX6_differIn wsX6_differIn (rmK 41 0 0) (xP D cA [.ref (nm 0 0), .int (nI a9), .int (nI b9), .int (nI j9)] (fun H => CRv D cA lab nm rf f nC nL nV H ∧ IQ0 D cA nm H)) (xW (xV (some (.int (bI (difE (cvE f a9 none nL j9) (cvE f b9 none nL j9) j9)))) (fun H => CRv D cA lab nm rf f nC nL nV H ∧ IQ0 D cA nm H)) (A9 nm)) 0 0 (A9 nm) := by
  refine Met.ofW (cc := cX6_differIn) (maxL := 7) (ret := (some .boolean)) (by decide) rfl ?_
  intro p e s m args below meth c s₁ B hml hv
  obtain ⟨rfl, hK, hI⟩ := hv
  have hx := B.exec
  have hb := B.bytes
  have hr := B.returns
  have hts := atoms_spec (ws := wsX6_differIn) B.pre
  have hown : s.vm.findClass RX6 = some m.cls := findClass_of_methodNamed B.named
  have hlocks := B.notSynchronized
  have hl := lv_entry ([.ref (nm 0 0), .int (nI a9), .int (nI b9), .int (nI j9)]) (n := 7) (Nat.le_of_ble_eq_true rfl)
  rw [lg_entry_eq]
  generalize (lg_sl ([.ref (nm 0 0), .int (nI a9), .int (nI b9), .int (nI j9)]) ++ List.replicate (7 - (lg_sl ([.ref (nm 0 0), .int (nI a9), .int (nI b9), .int (nI j9)])).length) Slot.unset).toArray = ls at hl ⊢
  have hl : lv_has ls 7 [(0, .ref (nm 0 0)), (1, .int (nI a9)), (2, .int (nI b9)), (3, .int (nI j9))] := hl
  have h_X0 : ∀ w ∈ wsX00, w ∈ wsX6_differIn := fun _ h => List.mem_cons_of_mem _ (List.mem_append_left _ (List.mem_append_left _ (List.mem_append_right _ h)))
  have h_X1 : ∀ w ∈ wsX10, w ∈ wsX6_differIn := fun _ h => List.mem_cons_of_mem _ (List.mem_append_right _ h)
  have h_X2 : ∀ w ∈ wsX20, w ∈ wsX6_differIn := fun _ h => List.mem_cons_of_mem _ (List.mem_append_left _ (List.mem_append_left _ (List.mem_append_left _ (List.mem_append_left _ (List.mem_append_left _ (List.mem_append_right _ h))))))
  have h_X3 : ∀ w ∈ wsX30, w ∈ wsX6_differIn := fun _ h => List.mem_cons_of_mem _ (List.mem_append_left _ (List.mem_append_left _ (List.mem_append_left _ (List.mem_append_left _ (List.mem_append_left _ (List.mem_append_left _ (List.mem_append_right _ h)))))))
  have h_X4 : ∀ w ∈ wsX40, w ∈ wsX6_differIn := fun _ h => List.mem_cons_of_mem _ (List.mem_append_left _ (List.mem_append_left _ (List.mem_append_left _ (List.mem_append_right _ h))))
  have h_X5 : ∀ w ∈ wsX50, w ∈ wsX6_differIn := fun _ h => List.mem_cons_of_mem _ (List.mem_append_left _ (List.mem_append_right _ h))
  have h_X6 : ∀ w ∈ wsX60, w ∈ wsX6_differIn := fun _ h => List.mem_cons_of_mem _ (List.mem_append_left _ (List.mem_append_left _ (List.mem_append_left _ (List.mem_append_left _ (List.mem_append_left _ (List.mem_append_left _ (List.mem_append_left _ (List.mem_append_right _ h))))))))
  have h_Jx4a65c : ∀ w ∈ wsJx4a65c0, w ∈ wsX6_differIn := fun _ h => List.mem_cons_of_mem _ (List.mem_append_left _ (List.mem_append_left _ (List.mem_append_left _ (List.mem_append_left _ (List.mem_append_right _ h)))))
  have hS : va_S (A9 nm) s.heap s.heap [] := va_S.rf
  obtain ⟨hV, hIQ⟩ := hI
  have hi0 := hi
  obtain ⟨b1, b2, b3, iSel, iGd, iCur, iZero, iLk, iLkA, iLkB⟩ := hi
  have hI9 := hV
  obtain ⟨hT, ⟨mcC, dC, capC, fC, hOC, hQC, hnC, hcC, hfC, -⟩, ⟨mcL, dL, capL, fL, hOL, hQL, hnL, hcL, hfL, -⟩, ⟨mcV, dV, capV, fV, hOV, hQV, hnV, hcV, hfV, -⟩, hC, hL, hHo, hRo, hCh, hRl, hEn⟩ := hI9
  have hA9 : ∀ q, A9 nm q → A9 nm q := fun _ h => h
  refine lv_aload_n hx hb dX6_differIn_0 rfl (lv_at hl 0 rfl) ?_
  refine lv_iload_n hx hb dX6_differIn_1 rfl (lv_at hl 1 rfl) ?_
  refine lv_iload_n hx hb dX6_differIn_2 rfl (lv_at hl 3 rfl) ?_
  refine xw_calln (va_runV (As := [.int (nI a9), .int (nI j9)]) (rest := []) ⟨hx, hb, hml, hown, hts⟩ (c_X6_ask l D cA lab nm rf f nC nL nV hi0 A hl9 a9 j9 (by omega) (by omega)) (cwV 2 hts gX6_differIn_X6_ask rfl rfl rfl (by decide +kernel) ⟨Nat.le_of_ble_eq_true rfl, Nat.le_of_ble_eq_true rfl⟩) (xPV hK hT rfl ⟨hV, hIQ⟩) rfl rfl hl.1 rfl (lv_room (Nat.le_of_ble_eq_true rfl)) dX6_differIn_3 ⟨Nat.le_of_ble_eq_true rfl, Nat.le_of_ble_eq_true rfl⟩) hS (fun q _ h => hA9 q h) (fun q h => hA9 q h) (fun H locs hJ z9 q9 hS => ?_)
  obtain ⟨hV, uw1, kn1, oc1, fa1, g1, hQ1, eN1, eS1⟩ := hJ
  have hIQ : IQ0 D cA nm H := ⟨_, some _, _, _, _, _, _, _, _, hQ1.1.1, hQ1.2⟩
  have hI9 := hV
  obtain ⟨hT, ⟨mcC, dC, capC, fC, hOC, hQC, hnC, hcC, hfC, -⟩, ⟨mcL, dL, capL, fL, hOL, hQL, hnL, hcL, hfL, -⟩, ⟨mcV, dV, capV, fV, hOV, hQV, hnV, hcV, hfV, -⟩, hC, hL, hHo, hRo, hCh, hRl, hEn⟩ := hI9
  have hT1 : akT (cvE f a9 none nL j9) = oc1 := (ak_oc eN1 eS1).symm
  refine lv_aload_n hx hb dX6_differIn_6 rfl (lv_at hl 0 rfl) ?_
  refine x_get (v := .ref (nm 9 0)) hx hb hts h_X6 hown hK hT rfl 3 (by decide) (hts (.fieldLink RX6 25 "ConfigBeacon" "inquiry" "LConfigBeacon$Inquiry;") (by decide +kernel)) (fun _ h => h) rfl dX6_differIn_7 ?_
  refine x_getN (v := .int oc1) hx hb hts h_X3 hown hK hQ1.1.1 rfl 7 (by decide) (va_Nw.use rfl (hK.2.2.1 ("ConfigBeacon", 210, "ConfigBeacon$Inquiry", "outcome", "I") (by decide))) (fun _ h => h) rfl dX6_differIn_10 ?_
  refine lv_if_ne (tgt := 20) hx hb dX6_differIn_13 (by decide) (fun c_2 => ?_) (fun c_2 => ?_)
  · refine lv_iconst (v := 0) hx hb dX6_differIn_20 (by decide) ?_
    refine lv_istore (lv' := [(4, .int 0), (0, .ref (nm 0 0)), (1, .int (nI a9)), (2, .int (nI b9)), (3, .int (nI j9))]) hx hb dX6_differIn_21 hl (by decide) rfl (fun ls hl => ?_)
    refine lv_aload_n hx hb dX6_differIn_23 rfl (lv_at hl 1 rfl) ?_
    refine x_get (v := .ref (nm 9 0)) hx hb hts h_X6 hown hK hT rfl 3 (by decide) (hts (.fieldLink RX6 25 "ConfigBeacon" "inquiry" "LConfigBeacon$Inquiry;") (by decide +kernel)) (fun _ h => h) rfl dX6_differIn_24 ?_
    refine x_getN (v := .ref (nm 9 1)) hx hb hts h_X3 hown hK hQ1.1.1 rfl 0 (by decide) (va_Nw.use rfl (hK.2.2.1 ("ConfigBeacon", 213, "ConfigBeacon$Inquiry", "values", "[J") (by decide))) (fun _ h => h) rfl dX6_differIn_27 ?_
    refine lv_iload_n hx hb dX6_differIn_30 rfl (lv_at hl 4 rfl) ?_
    refine x_lald hx hb hK hQ1.2 j9 rfl (by omega) (by decide) dX6_differIn_31 ?_
    refine lv_lstore (lv' := [(5, .long (g1 j9)), (4, .int 0), (0, .ref (nm 0 0)), (1, .int (nI a9)), (2, .int (nI b9)), (3, .int (nI j9))]) hx hb dX6_differIn_32 hl (by decide) rfl (fun ls hl => ?_)
    refine lv_aload_n hx hb dX6_differIn_34 rfl (lv_at hl 2 rfl) ?_
    refine lv_iload_n hx hb dX6_differIn_35 rfl (lv_at hl 4 rfl) ?_
    refine lv_iload_n hx hb dX6_differIn_36 rfl (lv_at hl 5 rfl) ?_
    refine xw_calln (va_runV (As := [.int (nI b9), .int (nI j9)]) (rest := []) ⟨hx, hb, hml, hown, hts⟩ (c_X6_ask l D cA lab nm rf f nC nL nV hi0 A hl9 b9 j9 (by omega) (by omega)) (cwV 2 hts gX6_differIn_X6_ask rfl rfl rfl (by decide +kernel) ⟨Nat.le_of_ble_eq_true rfl, Nat.le_of_ble_eq_true rfl⟩) (xPV hK hT rfl ⟨hV, hIQ⟩) rfl rfl hl.1 rfl (lv_room (Nat.le_of_ble_eq_true rfl)) dX6_differIn_37 ⟨Nat.le_of_ble_eq_true rfl, Nat.le_of_ble_eq_true rfl⟩) hS (fun q _ h => hA9 q h) (fun q h => hA9 q h) (fun H locs hJ z9 q9 hS => ?_)
    obtain ⟨hV, uw3, kn3, oc3, fa3, g3, hQ3, eN3, eS3⟩ := hJ
    have hIQ : IQ0 D cA nm H := ⟨_, some _, _, _, _, _, _, _, _, hQ3.1.1, hQ3.2⟩
    have hI9 := hV
    obtain ⟨hT, ⟨mcC, dC, capC, fC, hOC, hQC, hnC, hcC, hfC, -⟩, ⟨mcL, dL, capL, fL, hOL, hQL, hnL, hcL, hfL, -⟩, ⟨mcV, dV, capV, fV, hOV, hQV, hnV, hcV, hfV, -⟩, hC, hL, hHo, hRo, hCh, hRl, hEn⟩ := hI9
    have hT3 : akT (cvE f b9 none nL j9) = oc3 := (ak_oc eN3 eS3).symm
    refine lv_iload hx hb dX6_differIn_40 (lv_at hl 1 rfl) ?_
    refine lv_aload_n hx hb dX6_differIn_42 rfl (lv_at hl 2 rfl) ?_
    refine x_get (v := .ref (nm 9 0)) hx hb hts h_X6 hown hK hT rfl 3 (by decide) (hts (.fieldLink RX6 25 "ConfigBeacon" "inquiry" "LConfigBeacon$Inquiry;") (by decide +kernel)) (fun _ h => h) rfl dX6_differIn_43 ?_
    refine x_getN (v := .int oc3) hx hb hts h_X3 hown hK hQ3.1.1 rfl 7 (by decide) (va_Nw.use rfl (hK.2.2.1 ("ConfigBeacon", 210, "ConfigBeacon$Inquiry", "outcome", "I") (by decide))) (fun _ h => h) rfl dX6_differIn_46 ?_
    refine lv_if_ne (tgt := 56) hx hb dX6_differIn_49 (by decide) (fun c_4 => ?_) (fun c_4 => ?_)
    · refine lv_iconst (v := 0) hx hb dX6_differIn_56 (by decide) ?_
      refine lv_icmp_eq (tgt := 62) hx hb dX6_differIn_57 (by decide) (fun _ => ?_) (fun c_5 => absurd c_5 (by decide))
      refine lv_iload hx hb dX6_differIn_62 (lv_at hl 1 rfl) ?_
      refine lv_if_eq (tgt := 86) hx hb dX6_differIn_64 (by decide) (fun _ => ?_) (fun c_6 => absurd c_6 (by decide))
      refine lv_iconst (v := 0) hx hb dX6_differIn_86 (by decide) ?_
      exact xw_zret (b := difE (cvE f a9 none nL j9) (cvE f b9 none nL j9) j9) hx hb hr hlocks (by unfold difE; rw [hT1, hT3]; simp [bI, c_2, c_4]) hS ⟨rfl, hV, hIQ⟩ (Nat.le_refl _) (Nat.le_refl _) dX6_differIn_87
    · refine lv_iconst (v := 1) hx hb dX6_differIn_52 (by decide) ?_
      refine lv_goto (tgt := 57) hx hb dX6_differIn_53 (by decide) ?_
      refine lv_icmp_eq (tgt := 62) hx hb dX6_differIn_57 (by decide) (fun c_7 => absurd c_7 (by decide)) (fun _ => ?_)
      refine lv_iconst (v := 1) hx hb dX6_differIn_60 (by decide) ?_
      exact xw_zret (b := difE (cvE f a9 none nL j9) (cvE f b9 none nL j9) j9) hx hb hr hlocks (by unfold difE; rw [hT1, hT3]; simp [bI, c_2, c_4]) hS ⟨rfl, hV, hIQ⟩ (Nat.le_refl _) (Nat.le_refl _) dX6_differIn_61
  · refine lv_iconst (v := 1) hx hb dX6_differIn_16 (by decide) ?_
    refine lv_goto (tgt := 21) hx hb dX6_differIn_17 (by decide) ?_
    refine lv_istore (lv' := [(4, .int 1), (0, .ref (nm 0 0)), (1, .int (nI a9)), (2, .int (nI b9)), (3, .int (nI j9))]) hx hb dX6_differIn_21 hl (by decide) rfl (fun ls hl => ?_)
    refine lv_aload_n hx hb dX6_differIn_23 rfl (lv_at hl 1 rfl) ?_
    refine x_get (v := .ref (nm 9 0)) hx hb hts h_X6 hown hK hT rfl 3 (by decide) (hts (.fieldLink RX6 25 "ConfigBeacon" "inquiry" "LConfigBeacon$Inquiry;") (by decide +kernel)) (fun _ h => h) rfl dX6_differIn_24 ?_
    refine x_getN (v := .ref (nm 9 1)) hx hb hts h_X3 hown hK hQ1.1.1 rfl 0 (by decide) (va_Nw.use rfl (hK.2.2.1 ("ConfigBeacon", 213, "ConfigBeacon$Inquiry", "values", "[J") (by decide))) (fun _ h => h) rfl dX6_differIn_27 ?_
    refine lv_iload_n hx hb dX6_differIn_30 rfl (lv_at hl 4 rfl) ?_
    refine x_lald hx hb hK hQ1.2 j9 rfl (by omega) (by decide) dX6_differIn_31 ?_
    refine lv_lstore (lv' := [(5, .long (g1 j9)), (4, .int 1), (0, .ref (nm 0 0)), (1, .int (nI a9)), (2, .int (nI b9)), (3, .int (nI j9))]) hx hb dX6_differIn_32 hl (by decide) rfl (fun ls hl => ?_)
    refine lv_aload_n hx hb dX6_differIn_34 rfl (lv_at hl 2 rfl) ?_
    refine lv_iload_n hx hb dX6_differIn_35 rfl (lv_at hl 4 rfl) ?_
    refine lv_iload_n hx hb dX6_differIn_36 rfl (lv_at hl 5 rfl) ?_
    refine xw_calln (va_runV (As := [.int (nI b9), .int (nI j9)]) (rest := []) ⟨hx, hb, hml, hown, hts⟩ (c_X6_ask l D cA lab nm rf f nC nL nV hi0 A hl9 b9 j9 (by omega) (by omega)) (cwV 2 hts gX6_differIn_X6_ask rfl rfl rfl (by decide +kernel) ⟨Nat.le_of_ble_eq_true rfl, Nat.le_of_ble_eq_true rfl⟩) (xPV hK hT rfl ⟨hV, hIQ⟩) rfl rfl hl.1 rfl (lv_room (Nat.le_of_ble_eq_true rfl)) dX6_differIn_37 ⟨Nat.le_of_ble_eq_true rfl, Nat.le_of_ble_eq_true rfl⟩) hS (fun q _ h => hA9 q h) (fun q h => hA9 q h) (fun H locs hJ z9 q9 hS => ?_)
    obtain ⟨hV, uw8, kn8, oc8, fa8, g8, hQ8, eN8, eS8⟩ := hJ
    have hIQ : IQ0 D cA nm H := ⟨_, some _, _, _, _, _, _, _, _, hQ8.1.1, hQ8.2⟩
    have hI9 := hV
    obtain ⟨hT, ⟨mcC, dC, capC, fC, hOC, hQC, hnC, hcC, hfC, -⟩, ⟨mcL, dL, capL, fL, hOL, hQL, hnL, hcL, hfL, -⟩, ⟨mcV, dV, capV, fV, hOV, hQV, hnV, hcV, hfV, -⟩, hC, hL, hHo, hRo, hCh, hRl, hEn⟩ := hI9
    have hT8 : akT (cvE f b9 none nL j9) = oc8 := (ak_oc eN8 eS8).symm
    refine lv_iload hx hb dX6_differIn_40 (lv_at hl 1 rfl) ?_
    refine lv_aload_n hx hb dX6_differIn_42 rfl (lv_at hl 2 rfl) ?_
    refine x_get (v := .ref (nm 9 0)) hx hb hts h_X6 hown hK hT rfl 3 (by decide) (hts (.fieldLink RX6 25 "ConfigBeacon" "inquiry" "LConfigBeacon$Inquiry;") (by decide +kernel)) (fun _ h => h) rfl dX6_differIn_43 ?_
    refine x_getN (v := .int oc8) hx hb hts h_X3 hown hK hQ8.1.1 rfl 7 (by decide) (va_Nw.use rfl (hK.2.2.1 ("ConfigBeacon", 210, "ConfigBeacon$Inquiry", "outcome", "I") (by decide))) (fun _ h => h) rfl dX6_differIn_46 ?_
    refine lv_if_ne (tgt := 56) hx hb dX6_differIn_49 (by decide) (fun c_9 => ?_) (fun c_9 => ?_)
    · refine lv_iconst (v := 0) hx hb dX6_differIn_56 (by decide) ?_
      refine lv_icmp_eq (tgt := 62) hx hb dX6_differIn_57 (by decide) (fun c_10 => absurd c_10 (by decide)) (fun _ => ?_)
      refine lv_iconst (v := 1) hx hb dX6_differIn_60 (by decide) ?_
      exact xw_zret (b := difE (cvE f a9 none nL j9) (cvE f b9 none nL j9) j9) hx hb hr hlocks (by unfold difE; rw [hT1, hT8]; simp [bI, c_2, c_9]) hS ⟨rfl, hV, hIQ⟩ (Nat.le_refl _) (Nat.le_refl _) dX6_differIn_61
    · refine lv_iconst (v := 1) hx hb dX6_differIn_52 (by decide) ?_
      refine lv_goto (tgt := 57) hx hb dX6_differIn_53 (by decide) ?_
      refine lv_icmp_eq (tgt := 62) hx hb dX6_differIn_57 (by decide) (fun _ => ?_) (fun c_11 => absurd c_11 (by decide))
      refine lv_iload hx hb dX6_differIn_62 (lv_at hl 1 rfl) ?_
      refine lv_if_eq (tgt := 86) hx hb dX6_differIn_64 (by decide) (fun c_12 => absurd c_12 (by decide)) (fun _ => ?_)
      refine lv_lload hx hb dX6_differIn_67 (lv_at hl 0 rfl) ?_
      refine lv_aload_n hx hb dX6_differIn_69 rfl (lv_at hl 2 rfl) ?_
      refine x_get (v := .ref (nm 9 0)) hx hb hts h_X6 hown hK hT rfl 3 (by decide) (hts (.fieldLink RX6 25 "ConfigBeacon" "inquiry" "LConfigBeacon$Inquiry;") (by decide +kernel)) (fun _ h => h) rfl dX6_differIn_70 ?_
      refine x_getN (v := .ref (nm 9 1)) hx hb hts h_X3 hown hK hQ8.1.1 rfl 0 (by decide) (va_Nw.use rfl (hK.2.2.1 ("ConfigBeacon", 213, "ConfigBeacon$Inquiry", "values", "[J") (by decide))) (fun _ h => h) rfl dX6_differIn_73 ?_
      refine lv_iload_n hx hb dX6_differIn_76 rfl (lv_at hl 5 rfl) ?_
      refine x_lald hx hb hK hQ8.2 j9 rfl (by omega) (by decide) dX6_differIn_77 ?_
      refine xe_lcmp hx hb dX6_differIn_78 (fun v9 hv9 => ?_)
      refine lv_if_eq (tgt := 86) hx hb dX6_differIn_79 (by decide) (fun c_13 => ?_) (fun c_13 => ?_)
      · have hd9 : g1 j9 = g8 j9 := hv9.mp c_13
        refine lv_iconst (v := 0) hx hb dX6_differIn_86 (by decide) ?_
        exact xw_zret (b := difE (cvE f a9 none nL j9) (cvE f b9 none nL j9) j9) hx hb hr hlocks (by unfold difE; rw [hT1, hT8, ← ak_val iGd (by omega) (fun v h => by cases h) hj9 eN1 eS1 c_2, ← ak_val iGd (by omega) (fun v h => by cases h) hj9 eN8 eS8 c_9]; simp [bI, c_2, c_9, hd9]) hS ⟨rfl, hV, hIQ⟩ (Nat.le_refl _) (Nat.le_refl _) dX6_differIn_87
      · have hd9 : ¬ (g1 j9 = g8 j9) := fun q => c_13 (hv9.mpr q)
        refine lv_iconst (v := 1) hx hb dX6_differIn_82 (by decide) ?_
        refine lv_goto (tgt := 87) hx hb dX6_differIn_83 (by decide) ?_
        exact xw_zret (b := difE (cvE f a9 none nL j9) (cvE f b9 none nL j9) j9) hx hb hr hlocks (by unfold difE; rw [hT1, hT8, ← ak_val iGd (by omega) (fun v h => by cases h) hj9 eN1 eS1 c_2, ← ak_val iGd (by omega) (fun v h => by cases h) hj9 eN8 eS8 c_9]; simp [bI, c_2, c_9, hd9]) hS ⟨rfl, hV, hIQ⟩ (Nat.le_refl _) (Nat.le_refl _) dX6_differIn_87
set_option maxHeartbeats 4000000 in
set_option maxRecDepth 100000 in
theorem c_X6_differ (l : Launch) (hst : l.stackTraces = false) (D : va_G) (cA : Nat → ClassId) (lab : Nat → Nat) (nm : Nat → Nat → Nat) (rf : Nat → Nat → Option Nat) (f : Nat → Nat → Int32) (nC nL nV : Nat) (hi : CRi f nC nL nV) (A : Nat → Prop) (hl9 : CRl A lab nm rf nC nL) (H9 : Heap) (p1 : Int32) (p2 : Int32) : vx_Met l yX6_differ wsX6_differ (rmK 42 3 18) (xPX D cA (fun U => pK A (nm 12 0) U) [.ref (nm 0 0), .int p1, .int p2] (fun H => H = H9 ∧ CRv D cA lab nm rf f nC nL nV H ∧ IQ0 D cA nm H)) (xW (pJ (kF2 nC p1 p2) (some (.int (fnF (fun b => difE (akE (mS f) (ix p1) none nL b) (akE (mS f) (ix p2) none nL b) b) 16))) (CS D cA A (nm 12 0) (nm 0 0) f nC nL nV)) A) (xT (kF2 nC p1 p2) (fun k => eI) (CS D cA A (nm 12 0) (nm 0 0) f nC nL nV) A) 3 18 A := by
  refine vx_ofW (cc := cX6_differ) (maxL := 5) (ret := (some .int)) (by decide) rfl ?_
  intro p e s m args below meth c s₁ B hml ht hv
  obtain ⟨rfl, ⟨hK, hX⟩, hI⟩ := hv
  have hx := B.exec
  have hb := B.bytes
  have hr := B.returns
  have hts := atoms_spec (ws := wsX6_differ) B.pre
  have hown : s.vm.findClass RX6 = some m.cls := findClass_of_methodNamed B.named
  have hlocks := B.notSynchronized
  have hl := lv_entry ([.ref (nm 0 0), .int p1, .int p2]) (n := 5) (Nat.le_of_ble_eq_true rfl)
  rw [lg_entry_eq]
  generalize (lg_sl ([.ref (nm 0 0), .int p1, .int p2]) ++ List.replicate (5 - (lg_sl ([.ref (nm 0 0), .int p1, .int p2])).length) Slot.unset).toArray = ls at hl ⊢
  have hl : lv_has ls 5 [(0, .ref (nm 0 0)), (1, .int p1), (2, .int p2)] := hl
  have h_X0 : ∀ w ∈ wsX00, w ∈ wsX6_differ := fun _ h => List.mem_cons_of_mem _ (List.mem_append_left _ (List.mem_append_left _ (List.mem_append_left _ (List.mem_append_right _ h))))
  have h_X1 : ∀ w ∈ wsX10, w ∈ wsX6_differ := fun _ h => List.mem_cons_of_mem _ (List.mem_append_left _ (List.mem_append_right _ h))
  have h_X2 : ∀ w ∈ wsX20, w ∈ wsX6_differ := fun _ h => List.mem_cons_of_mem _ (List.mem_append_left _ (List.mem_append_left _ (List.mem_append_left _ (List.mem_append_left _ (List.mem_append_left _ (List.mem_append_right _ h))))))
  have h_X3 : ∀ w ∈ wsX30, w ∈ wsX6_differ := fun _ h => List.mem_cons_of_mem _ (List.mem_append_left _ (List.mem_append_left _ (List.mem_append_left _ (List.mem_append_left _ (List.mem_append_left _ (List.mem_append_left _ (List.mem_append_right _ h)))))))
  have h_X4 : ∀ w ∈ wsX40, w ∈ wsX6_differ := fun _ h => List.mem_cons_of_mem _ (List.mem_append_left _ (List.mem_append_left _ (List.mem_append_left _ (List.mem_append_left _ (List.mem_append_right _ h)))))
  have h_X5 : ∀ w ∈ wsX50, w ∈ wsX6_differ := fun _ h => List.mem_cons_of_mem _ (List.mem_append_left _ (List.mem_append_left _ (List.mem_append_right _ h)))
  have h_X6 : ∀ w ∈ wsX60, w ∈ wsX6_differ := fun _ h => List.mem_cons_of_mem _ (List.mem_append_left _ (List.mem_append_left _ (List.mem_append_left _ (List.mem_append_left _ (List.mem_append_left _ (List.mem_append_left _ (List.mem_append_left _ (List.mem_append_left _ (List.mem_append_right _ h)))))))))
  have h_Jx4a65c : ∀ w ∈ wsJx4a65c0, w ∈ wsX6_differ := fun _ h => List.mem_cons_of_mem _ (List.mem_append_left _ (List.mem_append_left _ (List.mem_append_left _ (List.mem_append_left _ (List.mem_append_left _ (List.mem_append_left _ (List.mem_append_left _ (List.mem_append_right _ h))))))))
  obtain ⟨hH9, hI, hIQ⟩ := hI
  subst hH9
  have hV := hI
  have hi0 := hi
  obtain ⟨hT, ⟨mcC, dC, capC, fC, hOC, hQC, hnC, hcC, hfC, -⟩, ⟨mcL, dL, capL, fL, hOL, hQL, hnL, hcL, hfL, -⟩, ⟨mcV, dV, capV, fV, hOV, hQV, hnV, hcV, hfV, -⟩, hC, hL, hHo, hRo, hCh, hRl, hEn⟩ := hI
  obtain ⟨b1, b2, b3, iSel, iGd, iCur, iZero, iLk, iLkA, iLkB⟩ := hi
  have hS : va_S A s.heap s.heap [] := va_S.rf
  have hCS0 : CS D cA A (nm 12 0) (nm 0 0) f nC nL nV s.heap := ⟨lab, nm, rf, hV, hl9, hIQ, rfl, rfl⟩
  have hA9 : ∀ q, A9 nm q → A q := fun q h => hl9.1 q (by rcases h with h | h <;> rw [h] <;> first | (rw [hl9.2.2.2.2.2.1]; omega) | (rw [hl9.2.2.2.2.2.2.1]; omega))
  refine lv_aload_n hx hb dX6_differ_0 rfl (lv_at hl 0 rfl) ?_
  refine lv_iload_n hx hb dX6_differ_1 rfl (lv_at hl 1 rfl) ?_
  refine xr_call (va_runV (As := [.int p1]) (rest := []) ⟨hx, hb, hml, hown, hts⟩ (c_X6_isClient l D cA lab nm rf f nC nL nV (⟨b1, b2, b3, iSel, iGd, iCur, iZero, iLk, iLkA, iLkB⟩) p1) (cwV 1 hts gX6_differ_X6_isClient rfl rfl rfl (by decide +kernel) ⟨Nat.le_of_ble_eq_true rfl, Nat.le_of_ble_eq_true rfl⟩) (xPV hK hT rfl hV) rfl rfl hl.1 rfl (lv_room (Nat.le_of_ble_eq_true rfl)) dX6_differ_2 ⟨Nat.le_of_ble_eq_true rfl, Nat.le_of_ble_eq_true rfl⟩) ?_
  refine xb_eq (tgt := 20) hx hb dX6_differ_5 (by decide) (fun c_1 => ?_) (fun c_1 => ?_)
  · refine lv_iconst (v := 0) hx hb dX6_differ_20 (by decide) ?_
    refine xx_check (E0 := eI) (vx_runS (As := [.int 0]) (rest := []) ⟨hx, hb, hml, hown, hts⟩ (c_X6_checkThere l hst D cA A false 0 (by decide)) (va_cwS 1 hts gX6_differ_X6_checkThere rfl rfl rfl (by decide +kernel) ⟨Nat.le_of_ble_eq_true rfl, Nat.le_of_ble_eq_true rfl⟩) (xPXS hK tK.blind (fun U hU hW => hX.2.at hS (fun _ h => h) hU hW) trivial) rfl rfl hl.1 rfl (lv_room (Nat.le_of_ble_eq_true rfl)) dX6_differ_21 ⟨Nat.le_of_ble_eq_true rfl, Nat.le_of_ble_eq_true rfl⟩) hS (fun b_2 ce q9 H1 z1 k1 hS1 g1 g2 g3 => ?_) (fun b_2 => ?_)
    · have hk9 : kF2 nC p1 p2 = 1 := by simp [kF2, c_1]
      exact vx_out (fun x hx => (ht x hx).elim) hlocks g1 g2 g3 (fun t ht9 _ => ⟨by rw [hk9]; decide, by rw [hk9] <;> rfl, by rw [ht9]; exact hCS0.same (fun q h1 _ => k1 q h1), hS1.F ht9⟩) hS1.2.2 (Nat.le_of_ble_eq_true rfl) (Nat.le_of_ble_eq_true rfl)
    · exact absurd b_2 (by decide)
  · refine lv_aload_n hx hb dX6_differ_8 rfl (lv_at hl 0 rfl) ?_
    refine lv_iload_n hx hb dX6_differ_9 rfl (lv_at hl 2 rfl) ?_
    refine xr_call (va_runV (As := [.int p2]) (rest := []) ⟨hx, hb, hml, hown, hts⟩ (c_X6_isClient l D cA lab nm rf f nC nL nV (⟨b1, b2, b3, iSel, iGd, iCur, iZero, iLk, iLkA, iLkB⟩) p2) (cwV 1 hts gX6_differ_X6_isClient rfl rfl rfl (by decide +kernel) ⟨Nat.le_of_ble_eq_true rfl, Nat.le_of_ble_eq_true rfl⟩) (xPV hK hT rfl hV) rfl rfl hl.1 rfl (lv_room (Nat.le_of_ble_eq_true rfl)) dX6_differ_10 ⟨Nat.le_of_ble_eq_true rfl, Nat.le_of_ble_eq_true rfl⟩) ?_
    refine xb_eq (tgt := 20) hx hb dX6_differ_13 (by decide) (fun c_3 => ?_) (fun c_3 => ?_)
    · refine lv_iconst (v := 0) hx hb dX6_differ_20 (by decide) ?_
      refine xx_check (E0 := eI) (vx_runS (As := [.int 0]) (rest := []) ⟨hx, hb, hml, hown, hts⟩ (c_X6_checkThere l hst D cA A false 0 (by decide)) (va_cwS 1 hts gX6_differ_X6_checkThere rfl rfl rfl (by decide +kernel) ⟨Nat.le_of_ble_eq_true rfl, Nat.le_of_ble_eq_true rfl⟩) (xPXS hK tK.blind (fun U hU hW => hX.2.at hS (fun _ h => h) hU hW) trivial) rfl rfl hl.1 rfl (lv_room (Nat.le_of_ble_eq_true rfl)) dX6_differ_21 ⟨Nat.le_of_ble_eq_true rfl, Nat.le_of_ble_eq_true rfl⟩) hS (fun b_4 ce q9 H1 z1 k1 hS1 g1 g2 g3 => ?_) (fun b_4 => ?_)
      · have hk9 : kF2 nC p1 p2 = 1 := by simp [kF2, c_1, c_3]
        exact vx_out (fun x hx => (ht x hx).elim) hlocks g1 g2 g3 (fun t ht9 _ => ⟨by rw [hk9]; decide, by rw [hk9] <;> rfl, by rw [ht9]; exact hCS0.same (fun q h1 _ => k1 q h1), hS1.F ht9⟩) hS1.2.2 (Nat.le_of_ble_eq_true rfl) (Nat.le_of_ble_eq_true rfl)
      · exact absurd b_4 (by decide)
    · refine lv_iconst (v := 1) hx hb dX6_differ_16 (by decide) ?_
      refine lv_goto (tgt := 21) hx hb dX6_differ_17 (by decide) ?_
      refine xx_check (E0 := eI) (vx_runS (As := [.int 1]) (rest := []) ⟨hx, hb, hml, hown, hts⟩ (c_X6_checkThere l hst D cA A true 1 (by decide)) (va_cwS 1 hts gX6_differ_X6_checkThere rfl rfl rfl (by decide +kernel) ⟨Nat.le_of_ble_eq_true rfl, Nat.le_of_ble_eq_true rfl⟩) (xPXS hK tK.blind (fun U hU hW => hX.2.at hS (fun _ h => h) hU hW) trivial) rfl rfl hl.1 rfl (lv_room (Nat.le_of_ble_eq_true rfl)) dX6_differ_21 ⟨Nat.le_of_ble_eq_true rfl, Nat.le_of_ble_eq_true rfl⟩) hS (fun b_5 ce q9 H1 z1 k1 hS1 g1 g2 g3 => ?_) (fun b_5 => ?_)
      · exact absurd b_5 (by decide)
      · have _b_5 := b_5
        obtain ⟨ip1, hip1, ep1⟩ := okN_of (n := nC) (v := p1) (by omega) (by have h9 := c_1; (try simp only [Bool.and_eq_true] at h9); simp [h9])
        subst ep1
        obtain ⟨ip2, hip2, ep2⟩ := okN_of (n := nC) (v := p2) (by omega) (by have h9 := c_3; (try simp only [Bool.and_eq_true] at h9); simp [h9])
        subst ep2
        refine lv_iconst (v := 0) hx hb dX6_differ_24 (by decide) ?_
        refine lv_istore_n (lv' := [(3, .int 0), (0, .ref (nm 0 0)), (1, .int (nI ip1)), (2, .int (nI ip2))]) hx hb dX6_differ_25 rfl hl (by decide) rfl (fun ls hl => ?_)
        refine lv_iconst (v := 0) hx hb dX6_differ_26 (by decide) ?_
        refine lv_istore (lv' := [(4, .int 0), (3, .int 0), (0, .ref (nm 0 0)), (1, .int (nI ip1)), (2, .int (nI ip2))]) hx hb dX6_differ_27 hl (by decide) rfl (fun ls hl => ?_)
        refine w_loop (fun (i : Nat) H locs ls => i ≤ 16 ∧ CRv D cA lab nm rf f nC nL nV H ∧ IQ0 D cA nm H ∧ va_S A s.heap H locs ∧ lv_has ls 5 [(0, .ref (nm 0 0)), (1, .int (nI ip1)), (2, .int (nI ip2)), (3, .int (fnF (fun b => difE (akE (mS f) ip1 none nL b) (akE (mS f) ip2 none nL b) b) i)), (4, .int (nI i))]) (fun i => 16 - i) ?_ 0 ⟨Nat.zero_le _, hV, hIQ, hS, lv_sub hl [2, 3, 4, 1, 0] rfl⟩
        intro i H locs ls h9 ih
        obtain ⟨hi9, hV, hIQ, hS, hl⟩ := h9
        have hCS0 : CS D cA A (nm 12 0) (nm 0 0) f nC nL nV H := ⟨lab, nm, rf, hV, hl9, hIQ, rfl, rfl⟩
        have hI9 := hV
        obtain ⟨hT, ⟨mcC, dC, capC, fC, hOC, hQC, hnC, hcC, hfC, -⟩, ⟨mcL, dL, capL, fL, hOL, hQL, hnL, hcL, hfL, -⟩, ⟨mcV, dV, capV, fV, hOV, hQV, hnV, hcV, hfV, -⟩, hC, hL, hHo, hRo, hCh, hRl, hEn⟩ := hI9
        refine lv_iload hx hb dX6_differ_29 (lv_at hl 4 rfl) ?_
        refine lv_bipush (v := 16) hx hb dX6_differ_31 (by decide) ?_
        refine lv_icmp_ge (tgt := 61) hx hb dX6_differ_33 (by decide) (fun c_6 => ?_) (fun c_6 => ?_)
        · have n_6 : 16 ≤ i := (nI_leI (a := 16) (b := i) (by omega) (by omega)).mp c_6
          refine lv_iload_n hx hb dX6_differ_61 rfl (lv_at hl 3 rfl) ?_
          refine vx_ret ?_
          exact xw_iret hx hb hr hlocks hS ⟨(by simp [kF2, ix_nI (show ip1 < 65536 by omega), ix_nI (show ip2 < 65536 by omega), c_1, c_3]), (by rw [ix_nI (show ip1 < 65536 by omega), ix_nI (show ip2 < 65536 by omega), show i = 16 by omega]), hCS0⟩ (Nat.le_of_ble_eq_true rfl) (Nat.le_of_ble_eq_true rfl) dX6_differ_62
        · have n_6 : i < 16 := Nat.not_le.mp (fun q => c_6 ((nI_leI (a := 16) (b := i) (by omega) (by omega)).mpr q))
          refine lv_aload_n hx hb dX6_differ_36 rfl (lv_at hl 0 rfl) ?_
          refine lv_iload_n hx hb dX6_differ_37 rfl (lv_at hl 1 rfl) ?_
          refine lv_iload_n hx hb dX6_differ_38 rfl (lv_at hl 2 rfl) ?_
          refine lv_iload hx hb dX6_differ_39 (lv_at hl 4 rfl) ?_
          refine xw_calls (va_runV (As := [.int (nI ip1), .int (nI ip2), .int (nI i)]) (rest := []) ⟨hx, hb, hml, hown, hts⟩ (c_X6_differIn l D cA lab nm rf f nC nL nV hi0 A hl9 ip1 ip2 i (by omega) (by omega) (by omega)) (cwV 3 hts gX6_differ_X6_differIn rfl rfl rfl (by decide +kernel) ⟨Nat.le_of_ble_eq_true rfl, Nat.le_of_ble_eq_true rfl⟩) (xPV hK hT rfl ⟨hV, hIQ⟩) rfl rfl hl.1 rfl (lv_room (Nat.le_of_ble_eq_true rfl)) dX6_differ_41 ⟨Nat.le_of_ble_eq_true rfl, Nat.le_of_ble_eq_true rfl⟩) hS (fun q _ h => hA9 q h) (fun q h => hA9 q h) (fun H locs hJ z9 q9 hS => ?_)
          obtain ⟨hV, hIQ⟩ := hJ
          have hCS0 : CS D cA A (nm 12 0) (nm 0 0) f nC nL nV H := ⟨lab, nm, rf, hV, hl9, hIQ, rfl, rfl⟩
          have hI9 := hV
          obtain ⟨hT, ⟨mcC, dC, capC, fC, hOC, hQC, hnC, hcC, hfC, -⟩, ⟨mcL, dL, capL, fL, hOL, hQL, hnL, hcL, hfL, -⟩, ⟨mcV, dV, capV, fV, hOV, hQV, hnV, hcV, hfV, -⟩, hC, hL, hHo, hRo, hCh, hRl, hEn⟩ := hI9
          refine xb_eq (tgt := 55) hx hb dX6_differ_44 (by decide) (fun c_8 => ?_) (fun c_8 => ?_)
          · have ed9 : ((fnF (fun b => difE (akE (mS f) ip1 none nL b) (akE (mS f) ip2 none nL b) b) i) : Int32) = (fnF (fun b => difE (akE (mS f) ip1 none nL b) (akE (mS f) ip2 none nL b) b) (i + 1)) := by rw [fnF_f (p := (fun b => difE (akE (mS f) ip1 none nL b) (akE (mS f) ip2 none nL b) b)) (show (fun b => difE (akE (mS f) ip1 none nL b) (akE (mS f) ip2 none nL b) b) i = false from c_8), Int32.or_zero]
            rw [ed9] at hl
            refine lv_iinc (v := (nI (i + 1))) (lv' := [(4, .int (nI (i + 1))), (0, .ref (nm 0 0)), (1, .int (nI ip1)), (2, .int (nI ip2)), (3, .int (fnF (fun b => difE (akE (mS f) ip1 none nL b) (akE (mS f) ip2 none nL b) b) (i + 1)))]) hx hb dX6_differ_55 hl (k := 4) rfl (ni_inc i) (by decide) rfl (fun ls hl => ?_)
            refine lv_goto (tgt := 29) hx hb dX6_differ_58 (by decide) ?_
            exact ih (i + 1) _ _ _ ⟨by omega, hV, hIQ, hS, lv_sub hl [1, 2, 3, 4, 0] rfl⟩ (by omega)
          · refine lv_iload_n hx hb dX6_differ_47 rfl (lv_at hl 3 rfl) ?_
            refine lv_iload hx hb dX6_differ_48 (lv_at hl 4 rfl) ?_
            refine xr_call (va_runS (As := [.int (nI i)]) (rest := [.int (fnF (fun b => difE (akE (mS f) ip1 none nL b) (akE (mS f) ip2 none nL b) b) i)]) ⟨hx, hb, hml, hown, hts⟩ (c_X6_bit l D cA i) (va_cwS 1 hts gX6_differ_X6_bit rfl rfl rfl (by decide +kernel) ⟨Nat.le_of_ble_eq_true rfl, Nat.le_of_ble_eq_true rfl⟩) (xPS hK trivial) rfl rfl hl.1 rfl (lv_room (Nat.le_of_ble_eq_true rfl)) dX6_differ_50 ⟨Nat.le_of_ble_eq_true rfl, Nat.le_of_ble_eq_true rfl⟩) ?_
            refine lv_ior hx hb dX6_differ_53 ?_
            refine lv_istore_n (lv' := [(3, .int ((fnF (fun b => difE (akE (mS f) ip1 none nL b) (akE (mS f) ip2 none nL b) b) i) ||| (bitI i))), (0, .ref (nm 0 0)), (1, .int (nI ip1)), (2, .int (nI ip2)), (4, .int (nI i))]) hx hb dX6_differ_54 rfl hl (by decide) rfl (fun ls hl => ?_)
            have ed9 : (((fnF (fun b => difE (akE (mS f) ip1 none nL b) (akE (mS f) ip2 none nL b) b) i) ||| (bitI i)) : Int32) = (fnF (fun b => difE (akE (mS f) ip1 none nL b) (akE (mS f) ip2 none nL b) b) (i + 1)) := by rw [fnF_t (p := (fun b => difE (akE (mS f) ip1 none nL b) (akE (mS f) ip2 none nL b) b)) (show (fun b => difE (akE (mS f) ip1 none nL b) (akE (mS f) ip2 none nL b) b) i = true from c_8)]
            rw [ed9] at hl
            refine lv_iinc (v := (nI (i + 1))) (lv' := [(4, .int (nI (i + 1))), (3, .int (fnF (fun b => difE (akE (mS f) ip1 none nL b) (akE (mS f) ip2 none nL b) b) (i + 1))), (0, .ref (nm 0 0)), (1, .int (nI ip1)), (2, .int (nI ip2))]) hx hb dX6_differ_55 hl (k := 4) rfl (ni_inc i) (by decide) rfl (fun ls hl => ?_)
            refine lv_goto (tgt := 29) hx hb dX6_differ_58 (by decide) ?_
            exact ih (i + 1) _ _ _ ⟨by omega, hV, hIQ, hS, lv_sub hl [2, 3, 4, 1, 0] rfl⟩ (by omega)
