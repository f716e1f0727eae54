set_option maxHeartbeats 4000000 in
set_option maxRecDepth 100000 in
theorem c_X7_versions (l : Launch) (D : va_G) (cA : Nat → ClassId) (A : Nat → Prop) (M : Nat) (ad : Nat → Nat) (σ : MS)  (nV : Nat) (hV : σ.1 13 = nI nV) (hV2 : nV < 512) : Met l yX7_versions wsX7_versions (rmK 0 0 0) (xP D cA [.ref M] (MR D cA A M ad σ)) (xW (xV none (MR D cA A M ad (cpS (sg σ 13 (nI (nV + 1))) (nV + 1) 128))) A) 0 0 A := by
  refine Met.ofW (cc := cX7_versions) (maxL := 2) (ret := none) (by decide) rfl ?_
  intro p e s m args below meth c s₁ B hml hv
  obtain ⟨rfl, hK, hI⟩ := hv
  have hx := B.exec
  have hb := B.bytes
  have hr := B.returns
  have hts := atoms_spec (ws := wsX7_versions) B.pre
  have hown : s.vm.findClass RX7 = some m.cls := findClass_of_methodNamed B.named
  have hlocks := B.notSynchronized
  have hl := lv_entry ([.ref M]) (n := 2) (Nat.le_of_ble_eq_true rfl)
  rw [lg_entry_eq]
  generalize (lg_sl ([.ref M]) ++ List.replicate (2 - (lg_sl ([.ref M])).length) Slot.unset).toArray = ls at hl ⊢
  have hl : lv_has ls 2 [(0, .ref M)] := hl
  have hM : MR D cA A M ad σ s.heap := hI
  have h7 : ∀ w ∈ wsX70, w ∈ wsX7_versions := fun _ h => List.mem_cons_of_mem _ (List.mem_append_right _ h)
  have hS : va_S A s.heap s.heap [] := va_S.rf
  refine lv_aload_n hx hb dX7_versions_0 rfl (lv_at hl 0 rfl) ?_
  refine lv_dup hx hb dX7_versions_1 rfl ?_
  refine m_get (v := .int (nI nV)) hx hb hts h7 hown hK hM 13 (by decide) (hts (.fieldLink RX7 94 "ConfigBeaconModel" "version" "I") (by decide +kernel)) (by show some (Value.int (σ.1 13)) = _; rw [hV]) dX7_versions_2 ?_
  refine lv_iconst (v := 1) hx hb dX7_versions_5 (by decide) ?_
  refine xe_iadd hx hb (nI_add nV 1) dX7_versions_6 ?_
  refine m_put hx hb hts h7 hown hK hM hS 13 (by decide) (by decide) (hts (.fieldLink RX7 94 "ConfigBeaconModel" "version" "I") (by decide +kernel)) rfl rfl dX7_versions_7 (fun H locs hM hS => ?_)
  refine lv_iconst (v := 0) hx hb dX7_versions_10 (by decide) ?_
  refine lv_istore_n (lv' := [(1, .int 0), (0, .ref M)]) hx hb dX7_versions_11 rfl hl (by decide) rfl (fun ls hl => ?_)
  refine w_loop (fun (i : Nat) H locs ls => i ≤ 128 ∧ MR D cA A M ad (cpS (sg σ 13 (nI (nV + 1))) (nV + 1) i) H ∧ va_S A s.heap H locs ∧ lv_has ls 2 [(1, .int (nI i)), (0, .ref M)]) (fun (i : Nat) => 128 - i) ?_ 0 ⟨Nat.zero_le _, (by rw [cpS_0]; exact hM), hS, lv_sub hl [0, 1] rfl⟩
  intro i H locs ls h9 ih
  obtain ⟨hi, hM, hS, hl⟩ := h9
  refine lv_iload_n hx hb dX7_versions_12 rfl (lv_at hl 0 rfl) ?_
  refine lv_sipush (v := 128) hx hb dX7_versions_13 (by decide) ?_
  refine lv_icmp_ge (tgt := 46) hx hb dX7_versions_16 (by decide) (fun c_1 => ?_) (fun c_1 => ?_)
  · have n_1 : 128 ≤ i := (nI_leI (a := 128) (b := i) (by omega) (by omega)).mp c_1
    have e : i = 128 := by omega
    subst e
    exact xw_vret hx hb hr hlocks hS ⟨rfl, hM⟩ (Nat.le_refl _) (Nat.le_refl _) dX7_versions_46
  · have n_1 : i < 128 := Nat.not_le.mp (fun q => c_1 ((nI_leI (a := 128) (b := i) (by omega) (by omega)).mpr q))
    refine lv_aload_n hx hb dX7_versions_19 rfl (lv_at hl 1 rfl) ?_
    refine m_get (v := .ref (ad 12)) hx hb hts h7 hown hK hM 12 (by decide) (hts (.fieldLink RX7 41 "ConfigBeaconModel" "states" "[I") (by decide +kernel)) rfl dX7_versions_20 ?_
    refine lv_sipush (v := 128) hx hb dX7_versions_23 (by decide) ?_
    refine lv_aload_n hx hb dX7_versions_26 rfl (lv_at hl 1 rfl) ?_
    refine m_get (v := .int (nI (nV + 1))) hx hb hts h7 hown hK hM 13 (by decide) (hts (.fieldLink RX7 94 "ConfigBeaconModel" "version" "I") (by decide +kernel)) rfl dX7_versions_27 ?_
    refine xe_imul hx hb (pk_mul 128 (nV + 1)) dX7_versions_30 ?_
    refine lv_iload_n hx hb dX7_versions_31 rfl (lv_at hl 0 rfl) ?_
    refine xe_iadd hx hb (nI_add (128 * (nV + 1)) i) dX7_versions_32 ?_
    refine lv_aload_n hx hb dX7_versions_33 rfl (lv_at hl 1 rfl) ?_
    refine m_get (v := .ref (ad 7)) hx hb hts h7 hown hK hM 7 (by decide) (hts (.fieldLink RX7 25 "ConfigBeaconModel" "entries" "[I") (by decide +kernel)) rfl dX7_versions_34 ?_
    refine lv_iload_n hx hb dX7_versions_37 rfl (lv_at hl 0 rfl) ?_
    refine m_ald hx hb hK hM 7 (by decide) (n := 128) rfl i rfl (by omega) (by decide) dX7_versions_38 (v := (σ.2.1 7 i)) rfl ?_
    refine m_ast hx hb hK hM hS 12 (by decide) (n := 65664) rfl ((128 * (nV + 1)) + i) rfl (by omega) (by decide) dX7_versions_39 (fun H locs hM hS => ?_)
    refine lv_iinc (v := (nI (i + 1))) (lv' := [(1, .int (nI (i + 1))), (0, .ref M)]) hx hb dX7_versions_40 hl (k := 0) rfl (ni_inc i) (by decide) rfl (fun ls hl => ?_)
    refine lv_goto (tgt := 12) hx hb dX7_versions_43 (by decide) ?_
    exact ih (i + 1) _ _ _ ⟨(by omega), (by rw [← cpS_1]; exact hM), hS, lv_sub hl [0, 1] rfl⟩ (by omega)
set_option maxHeartbeats 4000000 in
set_option maxRecDepth 100000 in
theorem c_X7_puts (l : Launch) (D : va_G) (cA : Nat → ClassId) (A : Nat → Prop) (M : Nat) (ad : Nat → Nat) (σ : MS) (k : Nat) (e9 : Int32) (hk : k < 128) (nV : Nat) (hV : σ.1 13 = nI nV) (hV2 : nV < 512) : Met l yX7_puts wsX7_puts (rmK 1 0 0) (xP D cA [.ref M, .int (nI k), .int e9] (MR D cA A M ad σ)) (xW (xV (some (.int (nI (putV σ nV k e9)))) (MR D cA A M ad (putS σ nV k e9))) A) 0 0 A := by
  refine Met.ofW (cc := cX7_puts) (maxL := 3) (ret := (some .int)) (by decide) rfl ?_
  intro p e s m args below meth c s₁ B hml hv
  obtain ⟨rfl, hK, hI⟩ := hv
  have hx := B.exec
  have hb := B.bytes
  have hr := B.returns
  have hts := atoms_spec (ws := wsX7_puts) B.pre
  have hown : s.vm.findClass RX7 = some m.cls := findClass_of_methodNamed B.named
  have hlocks := B.notSynchronized
  have hl := lv_entry ([.ref M, .int (nI k), .int e9]) (n := 3) (Nat.le_of_ble_eq_true rfl)
  rw [lg_entry_eq]
  generalize (lg_sl ([.ref M, .int (nI k), .int e9]) ++ List.replicate (3 - (lg_sl ([.ref M, .int (nI k), .int e9])).length) Slot.unset).toArray = ls at hl ⊢
  have hl : lv_has ls 3 [(0, .ref M), (1, .int (nI k)), (2, .int e9)] := hl
  have hM : MR D cA A M ad σ s.heap := hI
  have h7 : ∀ w ∈ wsX70, w ∈ wsX7_puts := fun _ h => List.mem_cons_of_mem _ (List.mem_append_right _ h)
  have hS : va_S A s.heap s.heap [] := va_S.rf
  refine lv_aload_n hx hb dX7_puts_0 rfl (lv_at hl 0 rfl) ?_
  refine m_get (v := .ref (ad 7)) hx hb hts h7 hown hK hM 7 (by decide) (hts (.fieldLink RX7 25 "ConfigBeaconModel" "entries" "[I") (by decide +kernel)) rfl dX7_puts_1 ?_
  refine lv_iload_n hx hb dX7_puts_4 rfl (lv_at hl 1 rfl) ?_
  refine m_ald hx hb hK hM 7 (by decide) (n := 128) rfl k rfl (by omega) (by decide) dX7_puts_5 (v := (σ.2.1 7 k)) rfl ?_
  refine lv_iload_n hx hb dX7_puts_6 rfl (lv_at hl 2 rfl) ?_
  refine lv_icmp_eq (tgt := 31) hx hb dX7_puts_7 (by decide) (fun c_1 => ?_) (fun c_1 => ?_)
  · refine lv_aload_n hx hb dX7_puts_31 rfl (lv_at hl 0 rfl) ?_
    refine m_get (v := .int (nI nV)) hx hb hts h7 hown hK hM 13 (by decide) (hts (.fieldLink RX7 94 "ConfigBeaconModel" "version" "I") (by decide +kernel)) (by show some (Value.int (σ.1 13)) = _; rw [hV]) dX7_puts_32 ?_
    exact xw_iret hx hb hr hlocks hS ⟨by rw [putV, if_pos c_1], by rw [putS, if_pos c_1]; exact hM⟩ (Nat.le_refl _) (Nat.le_refl _) dX7_puts_35
  · refine lv_aload_n hx hb dX7_puts_10 rfl (lv_at hl 0 rfl) ?_
    refine m_get (v := .ref (ad 7)) hx hb hts h7 hown hK hM 7 (by decide) (hts (.fieldLink RX7 25 "ConfigBeaconModel" "entries" "[I") (by decide +kernel)) rfl dX7_puts_11 ?_
    refine lv_iload_n hx hb dX7_puts_14 rfl (lv_at hl 1 rfl) ?_
    refine lv_iload_n hx hb dX7_puts_15 rfl (lv_at hl 2 rfl) ?_
    refine m_ast hx hb hK hM hS 7 (by decide) (n := 128) rfl k rfl (by omega) (by decide) dX7_puts_16 (fun H locs hM hS => ?_)
    refine lv_aload_n hx hb dX7_puts_17 rfl (lv_at hl 0 rfl) ?_
    refine xw_calln (va_runV (As := []) (rest := []) ⟨hx, hb, hml, hown, hts⟩ (c_X7_versions l D cA A M ad (sa σ 7 k e9) nV hV hV2) (cwV 0 hts gX7_puts_X7_versions rfl rfl rfl (by decide +kernel) ⟨Nat.le_of_ble_eq_true rfl, Nat.le_of_ble_eq_true rfl⟩) (xPV hK hM.1 rfl hM) rfl rfl hl.1 rfl (lv_room (Nat.le_of_ble_eq_true rfl)) dX7_puts_18 ⟨Nat.le_of_ble_eq_true rfl, Nat.le_of_ble_eq_true rfl⟩) hS (fun _ _ h => h) (fun _ h => h) (fun H locs hM _ _ hS => ?_)
    refine lv_aload_n hx hb dX7_puts_21 rfl (lv_at hl 0 rfl) ?_
    refine m_get (v := .ref (ad 8)) hx hb hts h7 hown hK hM 8 (by decide) (hts (.fieldLink RX7 28 "ConfigBeaconModel" "changes" "[I") (by decide +kernel)) rfl dX7_puts_22 ?_
    refine lv_iload_n hx hb dX7_puts_25 rfl (lv_at hl 1 rfl) ?_
    refine lv_aload_n hx hb dX7_puts_26 rfl (lv_at hl 0 rfl) ?_
    refine m_get (v := .int (nI (nV + 1))) hx hb hts h7 hown hK hM 13 (by decide) (hts (.fieldLink RX7 94 "ConfigBeaconModel" "version" "I") (by decide +kernel)) rfl dX7_puts_27 ?_
    refine m_ast hx hb hK hM hS 8 (by decide) (n := 128) rfl k rfl (by omega) (by decide) dX7_puts_30 (fun H locs hM hS => ?_)
    refine lv_aload_n hx hb dX7_puts_31 rfl (lv_at hl 0 rfl) ?_
    refine m_get (v := .int (nI (nV + 1))) hx hb hts h7 hown hK hM 13 (by decide) (hts (.fieldLink RX7 94 "ConfigBeaconModel" "version" "I") (by decide +kernel)) rfl dX7_puts_32 ?_
    exact xw_iret hx hb hr hlocks hS ⟨by rw [putV, if_neg c_1], by rw [putS, if_neg c_1]; exact hM⟩ (Nat.le_refl _) (Nat.le_refl _) dX7_puts_35
set_option maxHeartbeats 4000000 in
set_option maxRecDepth 100000 in
theorem c_X7_wrong (l : Launch) (D : va_G) (cA : Nat → ClassId) (A : Nat → Prop) (M : Nat) (ad : Nat → Nat) (σ : MS) (p1 : Int32) (p2 : Int32) (are : Bool) (o : Int32) (ro : Bool) (nL : Nat) (hL : σ.1 6 = nI nL) (hL2 : nL ≤ 8) : Met l yX7_wrong wsX7_wrong (rmK 3 0 0) (xP D cA [.ref M, .int p1, .int p2, .int (bI are), .int o, .int (bI ro)] (MR D cA A M ad σ)) (xR (some (.int (wrF σ nL p1 p2 are o ro)))) 0 0 (fun _ => False) := by
  refine Met.ofW (cc := cX7_wrong) (maxL := 7) (ret := (some .int)) (by decide) rfl ?_
  intro p e s m args below meth c s₁ B hml hv
  obtain ⟨rfl, hK, hI⟩ := hv
  have hx := B.exec
  have hb := B.bytes
  have hr := B.returns
  have hts := atoms_spec (ws := wsX7_wrong) B.pre
  have hown : s.vm.findClass RX7 = some m.cls := findClass_of_methodNamed B.named
  have hlocks := B.notSynchronized
  have hl := lv_entry ([.ref M, .int p1, .int p2, .int (bI are), .int o, .int (bI ro)]) (n := 7) (Nat.le_of_ble_eq_true rfl)
  rw [lg_entry_eq]
  generalize (lg_sl ([.ref M, .int p1, .int p2, .int (bI are), .int o, .int (bI ro)]) ++ List.replicate (7 - (lg_sl ([.ref M, .int p1, .int p2, .int (bI are), .int o, .int (bI ro)])).length) Slot.unset).toArray = ls at hl ⊢
  have hl : lv_has ls 7 [(0, .ref M), (1, .int p1), (2, .int p2), (3, .int (bI are)), (4, .int o), (5, .int (bI ro))] := hl
  have hM : MR D cA A M ad σ s.heap := hI
  have h7 : ∀ w ∈ wsX70, w ∈ wsX7_wrong := fun _ h => List.mem_cons_of_mem _ (List.mem_append_right _ h)
  refine lv_aload_n hx hb dX7_wrong_0 rfl (lv_at hl 0 rfl) ?_
  refine lv_iload_n hx hb dX7_wrong_1 rfl (lv_at hl 1 rfl) ?_
  refine xr_call (va_runV (As := [.int p1]) (rest := []) ⟨hx, hb, hml, hown, hts⟩ (c_X7_isLayer l D cA A M ad σ p1 nL hL (by omega)) (cwV 1 hts gX7_wrong_X7_isLayer rfl rfl rfl (by decide +kernel) ⟨Nat.le_of_ble_eq_true rfl, Nat.le_of_ble_eq_true rfl⟩) (xPV hK hM.1 rfl hM) rfl rfl hl.1 rfl (lv_room (Nat.le_of_ble_eq_true rfl)) dX7_wrong_2 ⟨Nat.le_of_ble_eq_true rfl, Nat.le_of_ble_eq_true rfl⟩) ?_
  refine xb_eq (tgt := 15) hx hb dX7_wrong_5 (by decide) (fun c_1 => ?_) (fun c_1 => ?_)
  · refine lv_iconst (v := 1) hx hb dX7_wrong_15 (by decide) ?_
    exact xr_iret hx hb hr hlocks (by simp [wrF, bI, c_1]) dX7_wrong_16
  · obtain ⟨j_p1, hj_p1, rfl⟩ := okN_of (by omega) c_1
    refine lv_iload_n hx hb dX7_wrong_8 rfl (lv_at hl 2 rfl) ?_
    refine xr_call (va_runS (As := [.int p2]) (rest := []) ⟨hx, hb, hml, hown, hts⟩ (c_X7_isSetting l D cA p2) (va_cwS 1 hts gX7_wrong_X7_isSetting rfl rfl rfl (by decide +kernel) ⟨Nat.le_of_ble_eq_true rfl, Nat.le_of_ble_eq_true rfl⟩) (xPS hK trivial) rfl rfl hl.1 rfl (lv_room (Nat.le_of_ble_eq_true rfl)) dX7_wrong_9 ⟨Nat.le_of_ble_eq_true rfl, Nat.le_of_ble_eq_true rfl⟩) ?_
    refine xb_ne (tgt := 17) hx hb dX7_wrong_12 (by decide) (fun c_2 => ?_) (fun c_2 => ?_)
    · obtain ⟨j_p2, hj_p2, rfl⟩ := okS_of c_2
      refine lv_iload_n hx hb dX7_wrong_17 rfl (lv_at hl 1 rfl) ?_
      refine lv_iload_n hx hb dX7_wrong_18 rfl (lv_at hl 2 rfl) ?_
      refine xr_call (va_runS (As := [.int (nI j_p1), .int (nI j_p2)]) (rest := []) ⟨hx, hb, hml, hown, hts⟩ (c_X7_cell l D cA j_p1 j_p2) (va_cwS 2 hts gX7_wrong_X7_cell rfl rfl rfl (by decide +kernel) ⟨Nat.le_of_ble_eq_true rfl, Nat.le_of_ble_eq_true rfl⟩) (xPS hK trivial) rfl rfl hl.1 rfl (lv_room (Nat.le_of_ble_eq_true rfl)) dX7_wrong_19 ⟨Nat.le_of_ble_eq_true rfl, Nat.le_of_ble_eq_true rfl⟩) ?_
      refine lv_istore (lv' := [(6, .int (nI (16 * j_p1 + j_p2))), (0, .ref M), (1, .int (nI j_p1)), (2, .int (nI j_p2)), (3, .int (bI are)), (4, .int o), (5, .int (bI ro))]) hx hb dX7_wrong_22 hl (by decide) rfl (fun ls hl => ?_)
      refine lv_iload_n hx hb dX7_wrong_24 rfl (lv_at hl 4 rfl) ?_
      refine xb_eq (tgt := 36) hx hb dX7_wrong_25 (by decide) (fun c_3 => ?_) (fun c_3 => ?_)
      · refine lv_iconst (v := 2) hx hb dX7_wrong_36 (by decide) ?_
        refine lv_goto (tgt := 76) hx hb dX7_wrong_37 (by decide) ?_
        exact xr_iret hx hb hr hlocks (by simp [wrF, bI, cl_nI (show j_p1 < 8 by omega) hj_p2, c_1, c_2, c_3]) dX7_wrong_76
      · refine lv_iload hx hb dX7_wrong_28 (lv_at hl 5 rfl) ?_
        refine xr_call (va_runS (As := [.int o]) (rest := []) ⟨hx, hb, hml, hown, hts⟩ (c_X7_isOwner l D cA o) (va_cwS 1 hts gX7_wrong_X7_isOwner rfl rfl rfl (by decide +kernel) ⟨Nat.le_of_ble_eq_true rfl, Nat.le_of_ble_eq_true rfl⟩) (xPS hK trivial) rfl rfl hl.1 rfl (lv_room (Nat.le_of_ble_eq_true rfl)) dX7_wrong_30 ⟨Nat.le_of_ble_eq_true rfl, Nat.le_of_ble_eq_true rfl⟩) ?_
        refine xb_ne (tgt := 40) hx hb dX7_wrong_33 (by decide) (fun c_4 => ?_) (fun c_4 => ?_)
        · refine lv_aload_n hx hb dX7_wrong_40 rfl (lv_at hl 1 rfl) ?_
          refine lv_iload hx hb dX7_wrong_41 (lv_at hl 0 rfl) ?_
          refine lv_iload hx hb dX7_wrong_43 (lv_at hl 5 rfl) ?_
          refine xr_call (va_runV (As := [.int (nI (16 * j_p1 + j_p2)), .int o]) (rest := []) ⟨hx, hb, hml, hown, hts⟩ (c_X7_isLockedFor l D cA A M ad σ (16 * j_p1 + j_p2) o (by omega)) (cwV 2 hts gX7_wrong_X7_isLockedFor rfl rfl rfl (by decide +kernel) ⟨Nat.le_of_ble_eq_true rfl, Nat.le_of_ble_eq_true rfl⟩) (xPV hK hM.1 rfl hM) rfl rfl hl.1 rfl (lv_room (Nat.le_of_ble_eq_true rfl)) dX7_wrong_45 ⟨Nat.le_of_ble_eq_true rfl, Nat.le_of_ble_eq_true rfl⟩) ?_
          refine xb_ne (tgt := 71) hx hb dX7_wrong_48 (by decide) (fun c_5 => ?_) (fun c_5 => ?_)
          · refine lv_iconst (v := 3) hx hb dX7_wrong_71 (by decide) ?_
            refine lv_goto (tgt := 76) hx hb dX7_wrong_72 (by decide) ?_
            exact xr_iret hx hb hr hlocks (by simp [wrF, bI, cl_nI (show j_p1 < 8 by omega) hj_p2, c_1, c_2, c_3, c_4, c_5]) dX7_wrong_76
          · refine lv_aload_n hx hb dX7_wrong_51 rfl (lv_at hl 1 rfl) ?_
            refine m_get (v := .ref (ad 10)) hx hb hts h7 hown hK hM 10 (by decide) (hts (.fieldLink RX7 34 "ConfigBeaconModel" "shares" "[I") (by decide +kernel)) rfl dX7_wrong_52 ?_
            refine lv_iload hx hb dX7_wrong_55 (lv_at hl 0 rfl) ?_
            refine m_ald hx hb hK hM 10 (by decide) (n := 128) rfl (16 * j_p1 + j_p2) rfl (by omega) (by decide) dX7_wrong_57 (v := (σ.2.1 10 (16 * j_p1 + j_p2))) rfl ?_
            refine lv_if_lt (tgt := 65) hx hb dX7_wrong_58 (by decide) (fun c_6 => ?_) (fun c_6 => ?_)
            · refine lv_iconst (v := 0) hx hb dX7_wrong_65 (by decide) ?_
              refine lv_iload hx hb dX7_wrong_66 (lv_at hl 6 rfl) ?_
              refine lv_icmp_eq (tgt := 75) hx hb dX7_wrong_68 (by decide) (fun c_7 => ?_) (fun c_7 => ?_)
              · have n_7 : ro = false := by cases ro <;> first | rfl | exact absurd c_7 (by decide) | exact c_7.elim (by decide)
                refine lv_iconst (v := 0) hx hb dX7_wrong_75 (by decide) ?_
                exact xr_iret hx hb hr hlocks (by simp [wrF, bI, cl_nI (show j_p1 < 8 by omega) hj_p2, c_1, c_2, c_3, c_4, c_5, c_6, Int32.not_le.mpr c_6, n_7]) dX7_wrong_76
              · have n_7 : ro = true := by cases ro <;> first | rfl | exact absurd c_7 (by decide) | exact c_7.elim (by decide)
                refine lv_iconst (v := 3) hx hb dX7_wrong_71 (by decide) ?_
                refine lv_goto (tgt := 76) hx hb dX7_wrong_72 (by decide) ?_
                exact xr_iret hx hb hr hlocks (by simp [wrF, bI, cl_nI (show j_p1 < 8 by omega) hj_p2, c_1, c_2, c_3, c_4, c_5, c_6, Int32.not_le.mpr c_6, n_7]) dX7_wrong_76
            · refine lv_iconst (v := 1) hx hb dX7_wrong_61 (by decide) ?_
              refine lv_goto (tgt := 66) hx hb dX7_wrong_62 (by decide) ?_
              refine lv_iload hx hb dX7_wrong_66 (lv_at hl 6 rfl) ?_
              refine lv_icmp_eq (tgt := 75) hx hb dX7_wrong_68 (by decide) (fun c_8 => ?_) (fun c_8 => ?_)
              · have n_8 : ro = true := by cases ro <;> first | rfl | exact absurd c_8 (by decide) | exact c_8.elim (by decide)
                refine lv_iconst (v := 0) hx hb dX7_wrong_75 (by decide) ?_
                exact xr_iret hx hb hr hlocks (by simp [wrF, bI, cl_nI (show j_p1 < 8 by omega) hj_p2, c_1, c_2, c_3, c_4, c_5, c_6, Int32.not_lt.mp c_6, n_8]) dX7_wrong_76
              · have n_8 : ro = false := by cases ro <;> first | rfl | exact absurd c_8 (by decide) | exact c_8.elim (by decide)
                refine lv_iconst (v := 3) hx hb dX7_wrong_71 (by decide) ?_
                refine lv_goto (tgt := 76) hx hb dX7_wrong_72 (by decide) ?_
                exact xr_iret hx hb hr hlocks (by simp [wrF, bI, cl_nI (show j_p1 < 8 by omega) hj_p2, c_1, c_2, c_3, c_4, c_5, c_6, Int32.not_lt.mp c_6, n_8]) dX7_wrong_76
        · refine lv_iconst (v := 2) hx hb dX7_wrong_36 (by decide) ?_
          refine lv_goto (tgt := 76) hx hb dX7_wrong_37 (by decide) ?_
          exact xr_iret hx hb hr hlocks (by simp [wrF, bI, cl_nI (show j_p1 < 8 by omega) hj_p2, c_1, c_2, c_3, c_4]) dX7_wrong_76
    · refine lv_iconst (v := 1) hx hb dX7_wrong_15 (by decide) ?_
      exact xr_iret hx hb hr hlocks (by simp [wrF, bI, c_1, c_2]) dX7_wrong_16
