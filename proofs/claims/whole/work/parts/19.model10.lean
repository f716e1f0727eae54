set_option maxHeartbeats 4000000 in
set_option maxRecDepth 100000 in
theorem c_X7_goesFor (l : Launch) (D : va_G) (cA : Nat → ClassId) (A : Nat → Prop) (M : Nat) (ad : Nat → Nat) (σ : MS) (c9 : Int32) (b9 : Int32) (nC : Nat) (hC : σ.1 2 = nI nC) (hC2 : nC ≤ 12) : Met l yX7_goesFor wsX7_goesFor (rmK 2 0 0) (xP D cA [.ref M, .int c9, .int b9] (MR D cA A M ad σ)) (xW (xV (some (.int (bI (okN nC c9 && okS b9)))) (MR D cA A M ad (sg σ 25 (kFo nC c9 b9)))) A) 0 0 A := by
  refine Met.ofW (cc := cX7_goesFor) (maxL := 3) (ret := (some .boolean)) (by decide) rfl ?_
  intro p e s m args below meth c s₁ B hml hv
  obtain ⟨rfl, hK, hI⟩ := hv
  have hx := B.exec
  have hb := B.bytes
  have hr := B.returns
  have hts := atoms_spec (ws := wsX7_goesFor) B.pre
  have hown : s.vm.findClass RX7 = some m.cls := findClass_of_methodNamed B.named
  have hlocks := B.notSynchronized
  have hl := lv_entry ([.ref M, .int c9, .int b9]) (n := 3) (Nat.le_of_ble_eq_true rfl)
  rw [lg_entry_eq]
  generalize (lg_sl ([.ref M, .int c9, .int b9]) ++ List.replicate (3 - (lg_sl ([.ref M, .int c9, .int b9])).length) Slot.unset).toArray = ls at hl ⊢
  have hl : lv_has ls 3 [(0, .ref M), (1, .int c9), (2, .int b9)] := hl
  have hM : MR D cA A M ad σ s.heap := hI
  have h7 : ∀ w ∈ wsX70, w ∈ wsX7_goesFor := fun _ h => List.mem_cons_of_mem _ (List.mem_append_right _ h)
  have hS : va_S A s.heap s.heap [] := va_S.rf
  refine lv_aload_n hx hb dX7_goesFor_0 rfl (lv_at hl 0 rfl) ?_
  refine lv_aload_n hx hb dX7_goesFor_1 rfl (lv_at hl 0 rfl) ?_
  refine lv_iload_n hx hb dX7_goesFor_2 rfl (lv_at hl 1 rfl) ?_
  refine xr_call (va_runV (As := [.int c9]) (rest := [.ref M]) ⟨hx, hb, hml, hown, hts⟩ (c_X7_isClient l D cA A M ad σ c9 nC hC (by omega)) (cwV 1 hts gX7_goesFor_X7_isClient rfl rfl rfl (by decide +kernel) ⟨Nat.le_of_ble_eq_true rfl, Nat.le_of_ble_eq_true rfl⟩) (xPV hK hM.1 rfl hM) rfl rfl hl.1 rfl (lv_room (Nat.le_of_ble_eq_true rfl)) dX7_goesFor_3 ⟨Nat.le_of_ble_eq_true rfl, Nat.le_of_ble_eq_true rfl⟩) ?_
  refine xb_eq (tgt := 20) hx hb dX7_goesFor_6 (by decide) (fun c_1 => ?_) (fun c_1 => ?_)
  · refine lv_iconst (v := 1) hx hb dX7_goesFor_20 (by decide) ?_
    refine xw_calls (va_runV (As := [.int 1]) (rest := []) ⟨hx, hb, hml, hown, hts⟩ (c_X7_goes l D cA A M ad σ 1) (cwV 1 hts gX7_goesFor_X7_goes rfl rfl rfl (by decide +kernel) ⟨Nat.le_of_ble_eq_true rfl, Nat.le_of_ble_eq_true rfl⟩) (xPV hK hM.1 rfl hM) rfl rfl hl.1 rfl (lv_room (Nat.le_of_ble_eq_true rfl)) dX7_goesFor_21 ⟨Nat.le_of_ble_eq_true rfl, Nat.le_of_ble_eq_true rfl⟩) hS (fun _ _ h => h) (fun _ h => h) (fun H locs hM _ _ hS => ?_)
    exact xw_zret hx hb hr hlocks (b := false) rfl hS ⟨by simp [c_1], by rw [show kFo nC c9 b9 = 1 from by simp [kFo, c_1]]; exact hM⟩ (Nat.le_refl _) (Nat.le_refl _) dX7_goesFor_24
  · refine lv_iload_n hx hb dX7_goesFor_9 rfl (lv_at hl 2 rfl) ?_
    refine xr_call (va_runS (As := [.int b9]) (rest := [.ref M]) ⟨hx, hb, hml, hown, hts⟩ (c_X7_isSetting l D cA b9) (va_cwS 1 hts gX7_goesFor_X7_isSetting rfl rfl rfl (by decide +kernel) ⟨Nat.le_of_ble_eq_true rfl, Nat.le_of_ble_eq_true rfl⟩) (xPS hK trivial) rfl rfl hl.1 rfl (lv_room (Nat.le_of_ble_eq_true rfl)) dX7_goesFor_10 ⟨Nat.le_of_ble_eq_true rfl, Nat.le_of_ble_eq_true rfl⟩) ?_
    refine xb_eq (tgt := 20) hx hb dX7_goesFor_13 (by decide) (fun c_2 => ?_) (fun c_2 => ?_)
    · refine lv_iconst (v := 1) hx hb dX7_goesFor_20 (by decide) ?_
      refine xw_calls (va_runV (As := [.int 1]) (rest := []) ⟨hx, hb, hml, hown, hts⟩ (c_X7_goes l D cA A M ad σ 1) (cwV 1 hts gX7_goesFor_X7_goes rfl rfl rfl (by decide +kernel) ⟨Nat.le_of_ble_eq_true rfl, Nat.le_of_ble_eq_true rfl⟩) (xPV hK hM.1 rfl hM) rfl rfl hl.1 rfl (lv_room (Nat.le_of_ble_eq_true rfl)) dX7_goesFor_21 ⟨Nat.le_of_ble_eq_true rfl, Nat.le_of_ble_eq_true rfl⟩) hS (fun _ _ h => h) (fun _ h => h) (fun H locs hM _ _ hS => ?_)
      exact xw_zret hx hb hr hlocks (b := false) rfl hS ⟨by simp [c_1, c_2], by rw [show kFo nC c9 b9 = 1 from by simp [kFo, c_1, c_2]]; exact hM⟩ (Nat.le_refl _) (Nat.le_refl _) dX7_goesFor_24
    · refine lv_iconst (v := 0) hx hb dX7_goesFor_16 (by decide) ?_
      refine lv_goto (tgt := 21) hx hb dX7_goesFor_17 (by decide) ?_
      refine xw_calls (va_runV (As := [.int 0]) (rest := []) ⟨hx, hb, hml, hown, hts⟩ (c_X7_goes l D cA A M ad σ 0) (cwV 1 hts gX7_goesFor_X7_goes rfl rfl rfl (by decide +kernel) ⟨Nat.le_of_ble_eq_true rfl, Nat.le_of_ble_eq_true rfl⟩) (xPV hK hM.1 rfl hM) rfl rfl hl.1 rfl (lv_room (Nat.le_of_ble_eq_true rfl)) dX7_goesFor_21 ⟨Nat.le_of_ble_eq_true rfl, Nat.le_of_ble_eq_true rfl⟩) hS (fun _ _ h => h) (fun _ h => h) (fun H locs hM _ _ hS => ?_)
      exact xw_zret hx hb hr hlocks (b := true) rfl hS ⟨by simp [c_1, c_2], by rw [show kFo nC c9 b9 = 0 from by simp [kFo, c_1, c_2]]; exact hM⟩ (Nat.le_refl _) (Nat.le_refl _) dX7_goesFor_24
set_option maxHeartbeats 4000000 in
set_option maxRecDepth 100000 in
theorem c_X7_goesAt (l : Launch) (D : va_G) (cA : Nat → ClassId) (A : Nat → Prop) (M : Nat) (ad : Nat → Nat) (σ : MS) (v9 : Int32) (c9 : Int32) (b9 : Int32) (nC : Nat) (hC : σ.1 2 = nI nC) (hC2 : nC ≤ 12) (nV : Nat) (hV : σ.1 13 = nI nV) (hV2 : nV ≤ 512) : Met l yX7_goesAt wsX7_goesAt (rmK 2 0 0) (xP D cA [.ref M, .int v9, .int c9, .int b9] (MR D cA A M ad σ)) (xW (xV (some (.int (bI (okN (nV + 1) v9 && (okN nC c9 && okS b9))))) (MR D cA A M ad (sg σ 25 (kAt nC nV v9 c9 b9)))) A) 0 0 A := by
  refine Met.ofW (cc := cX7_goesAt) (maxL := 4) (ret := (some .boolean)) (by decide) rfl ?_
  intro p e s m args below meth c s₁ B hml hv
  obtain ⟨rfl, hK, hI⟩ := hv
  have hx := B.exec
  have hb := B.bytes
  have hr := B.returns
  have hts := atoms_spec (ws := wsX7_goesAt) B.pre
  have hown : s.vm.findClass RX7 = some m.cls := findClass_of_methodNamed B.named
  have hlocks := B.notSynchronized
  have hl := lv_entry ([.ref M, .int v9, .int c9, .int b9]) (n := 4) (Nat.le_of_ble_eq_true rfl)
  rw [lg_entry_eq]
  generalize (lg_sl ([.ref M, .int v9, .int c9, .int b9]) ++ List.replicate (4 - (lg_sl ([.ref M, .int v9, .int c9, .int b9])).length) Slot.unset).toArray = ls at hl ⊢
  have hl : lv_has ls 4 [(0, .ref M), (1, .int v9), (2, .int c9), (3, .int b9)] := hl
  have hM : MR D cA A M ad σ s.heap := hI
  have h7 : ∀ w ∈ wsX70, w ∈ wsX7_goesAt := fun _ h => List.mem_cons_of_mem _ (List.mem_append_right _ h)
  have hS : va_S A s.heap s.heap [] := va_S.rf
  refine lv_aload_n hx hb dX7_goesAt_0 rfl (lv_at hl 0 rfl) ?_
  refine lv_iload_n hx hb dX7_goesAt_1 rfl (lv_at hl 1 rfl) ?_
  refine lv_iconst (v := 0) hx hb dX7_goesAt_2 (by decide) ?_
  refine lv_aload_n hx hb dX7_goesAt_3 rfl (lv_at hl 0 rfl) ?_
  refine m_get (v := .int (nI nV)) hx hb hts h7 hown hK hM 13 (by decide) (hts (.fieldLink RX7 94 "ConfigBeaconModel" "version" "I") (by decide +kernel)) (by show some (Value.int (σ.1 13)) = _; rw [hV]) dX7_goesAt_4 ?_
  refine xr_call (va_runS (As := [.int v9, .int 0, .int (nI nV)]) (rest := [.ref M]) ⟨hx, hb, hml, hown, hts⟩ (c_X7_isIn l D cA v9 0 (nI nV)) (va_cwS 3 hts gX7_goesAt_X7_isIn rfl rfl rfl (by decide +kernel) ⟨Nat.le_of_ble_eq_true rfl, Nat.le_of_ble_eq_true rfl⟩) (xPS hK trivial) rfl rfl hl.1 rfl (lv_room (Nat.le_of_ble_eq_true rfl)) dX7_goesAt_7 ⟨Nat.le_of_ble_eq_true rfl, Nat.le_of_ble_eq_true rfl⟩) ?_
  refine xb_eq (tgt := 32) hx hb dX7_goesAt_10 (by decide) (fun c_1 => ?_) (fun c_1 => ?_)
  · have c_1 : okN (nV + 1) v9 = false := (inB_okN2 (by omega) v9).symm.trans c_1
    refine lv_iconst (v := 1) hx hb dX7_goesAt_32 (by decide) ?_
    refine xw_calls (va_runV (As := [.int 1]) (rest := []) ⟨hx, hb, hml, hown, hts⟩ (c_X7_goes l D cA A M ad σ 1) (cwV 1 hts gX7_goesAt_X7_goes rfl rfl rfl (by decide +kernel) ⟨Nat.le_of_ble_eq_true rfl, Nat.le_of_ble_eq_true rfl⟩) (xPV hK hM.1 rfl hM) rfl rfl hl.1 rfl (lv_room (Nat.le_of_ble_eq_true rfl)) dX7_goesAt_33 ⟨Nat.le_of_ble_eq_true rfl, Nat.le_of_ble_eq_true rfl⟩) hS (fun _ _ h => h) (fun _ h => h) (fun H locs hM _ _ hS => ?_)
    exact xw_zret hx hb hr hlocks (b := false) rfl hS ⟨by simp [c_1], by rw [show kAt nC nV v9 c9 b9 = 1 from by simp [kAt, c_1]]; exact hM⟩ (Nat.le_refl _) (Nat.le_refl _) dX7_goesAt_36
  · have c_1 : okN (nV + 1) v9 = true := (inB_okN2 (by omega) v9).symm.trans c_1
    refine lv_aload_n hx hb dX7_goesAt_13 rfl (lv_at hl 0 rfl) ?_
    refine lv_iload_n hx hb dX7_goesAt_14 rfl (lv_at hl 2 rfl) ?_
    refine xr_call (va_runV (As := [.int c9]) (rest := [.ref M]) ⟨hx, hb, hml, hown, hts⟩ (c_X7_isClient l D cA A M ad σ c9 nC hC (by omega)) (cwV 1 hts gX7_goesAt_X7_isClient rfl rfl rfl (by decide +kernel) ⟨Nat.le_of_ble_eq_true rfl, Nat.le_of_ble_eq_true rfl⟩) (xPV hK hM.1 rfl hM) rfl rfl hl.1 rfl (lv_room (Nat.le_of_ble_eq_true rfl)) dX7_goesAt_15 ⟨Nat.le_of_ble_eq_true rfl, Nat.le_of_ble_eq_true rfl⟩) ?_
    refine xb_eq (tgt := 32) hx hb dX7_goesAt_18 (by decide) (fun c_2 => ?_) (fun c_2 => ?_)
    · refine lv_iconst (v := 1) hx hb dX7_goesAt_32 (by decide) ?_
      refine xw_calls (va_runV (As := [.int 1]) (rest := []) ⟨hx, hb, hml, hown, hts⟩ (c_X7_goes l D cA A M ad σ 1) (cwV 1 hts gX7_goesAt_X7_goes rfl rfl rfl (by decide +kernel) ⟨Nat.le_of_ble_eq_true rfl, Nat.le_of_ble_eq_true rfl⟩) (xPV hK hM.1 rfl hM) rfl rfl hl.1 rfl (lv_room (Nat.le_of_ble_eq_true rfl)) dX7_goesAt_33 ⟨Nat.le_of_ble_eq_true rfl, Nat.le_of_ble_eq_true rfl⟩) hS (fun _ _ h => h) (fun _ h => h) (fun H locs hM _ _ hS => ?_)
      exact xw_zret hx hb hr hlocks (b := false) rfl hS ⟨by simp [c_1, c_2], by rw [show kAt nC nV v9 c9 b9 = 1 from by simp [kAt, c_1, c_2]]; exact hM⟩ (Nat.le_refl _) (Nat.le_refl _) dX7_goesAt_36
    · refine lv_iload_n hx hb dX7_goesAt_21 rfl (lv_at hl 3 rfl) ?_
      refine xr_call (va_runS (As := [.int b9]) (rest := [.ref M]) ⟨hx, hb, hml, hown, hts⟩ (c_X7_isSetting l D cA b9) (va_cwS 1 hts gX7_goesAt_X7_isSetting rfl rfl rfl (by decide +kernel) ⟨Nat.le_of_ble_eq_true rfl, Nat.le_of_ble_eq_true rfl⟩) (xPS hK trivial) rfl rfl hl.1 rfl (lv_room (Nat.le_of_ble_eq_true rfl)) dX7_goesAt_22 ⟨Nat.le_of_ble_eq_true rfl, Nat.le_of_ble_eq_true rfl⟩) ?_
      refine xb_eq (tgt := 32) hx hb dX7_goesAt_25 (by decide) (fun c_3 => ?_) (fun c_3 => ?_)
      · refine lv_iconst (v := 1) hx hb dX7_goesAt_32 (by decide) ?_
        refine xw_calls (va_runV (As := [.int 1]) (rest := []) ⟨hx, hb, hml, hown, hts⟩ (c_X7_goes l D cA A M ad σ 1) (cwV 1 hts gX7_goesAt_X7_goes rfl rfl rfl (by decide +kernel) ⟨Nat.le_of_ble_eq_true rfl, Nat.le_of_ble_eq_true rfl⟩) (xPV hK hM.1 rfl hM) rfl rfl hl.1 rfl (lv_room (Nat.le_of_ble_eq_true rfl)) dX7_goesAt_33 ⟨Nat.le_of_ble_eq_true rfl, Nat.le_of_ble_eq_true rfl⟩) hS (fun _ _ h => h) (fun _ h => h) (fun H locs hM _ _ hS => ?_)
        exact xw_zret hx hb hr hlocks (b := false) rfl hS ⟨by simp [c_1, c_2, c_3], by rw [show kAt nC nV v9 c9 b9 = 1 from by simp [kAt, c_1, c_2, c_3]]; exact hM⟩ (Nat.le_refl _) (Nat.le_refl _) dX7_goesAt_36
      · refine lv_iconst (v := 0) hx hb dX7_goesAt_28 (by decide) ?_
        refine lv_goto (tgt := 33) hx hb dX7_goesAt_29 (by decide) ?_
        refine xw_calls (va_runV (As := [.int 0]) (rest := []) ⟨hx, hb, hml, hown, hts⟩ (c_X7_goes l D cA A M ad σ 0) (cwV 1 hts gX7_goesAt_X7_goes rfl rfl rfl (by decide +kernel) ⟨Nat.le_of_ble_eq_true rfl, Nat.le_of_ble_eq_true rfl⟩) (xPV hK hM.1 rfl hM) rfl rfl hl.1 rfl (lv_room (Nat.le_of_ble_eq_true rfl)) dX7_goesAt_33 ⟨Nat.le_of_ble_eq_true rfl, Nat.le_of_ble_eq_true rfl⟩) hS (fun _ _ h => h) (fun _ h => h) (fun H locs hM _ _ hS => ?_)
        exact xw_zret hx hb hr hlocks (b := true) rfl hS ⟨by simp [c_1, c_2, c_3], by rw [show kAt nC nV v9 c9 b9 = 0 from by simp [kAt, c_1, c_2, c_3]]; exact hM⟩ (Nat.le_refl _) (Nat.le_refl _) dX7_goesAt_36
set_option maxHeartbeats 4000000 in
set_option maxRecDepth 100000 in
theorem c_X7_value (l : Launch) (D : va_G) (cA : Nat → ClassId) (A : Nat → Prop) (M : Nat) (ad : Nat → Nat) (σ : MS) (c9 : Int32) (b9 : Int32) (nL : Nat) (hL : σ.1 6 = nI nL) (hL2 : nL ≤ 8) (nC : Nat) (hC : σ.1 2 = nI nC) (hC2 : nC ≤ 12) (hdec : dcOk σ.2.1 nL) : Met l yX7_value wsX7_value (rmK 6 0 0) (xP D cA [.ref M, .int c9, .int b9] (MR D cA A M ad σ)) (xW (mJ D cA A M ad σ (kVa σ nL nC c9 b9) (fun r τ => r = some (.long (akV (akE σ (ix c9) none nL (ix b9)) (ix b9))) ∧ PE τ σ)) A) 0 0 A := by
  refine Met.ofW (cc := cX7_value) (maxL := 5) (ret := (some .long)) (by decide) rfl ?_
  intro p e s m args below meth c s₁ B hml hv
  obtain ⟨rfl, hK, hI⟩ := hv
  have hx := B.exec
  have hb := B.bytes
  have hr := B.returns
  have hts := atoms_spec (ws := wsX7_value) B.pre
  have hown : s.vm.findClass RX7 = some m.cls := findClass_of_methodNamed B.named
  have hlocks := B.notSynchronized
  have hl := lv_entry ([.ref M, .int c9, .int b9]) (n := 5) (Nat.le_of_ble_eq_true rfl)
  rw [lg_entry_eq]
  generalize (lg_sl ([.ref M, .int c9, .int b9]) ++ List.replicate (5 - (lg_sl ([.ref M, .int c9, .int b9])).length) Slot.unset).toArray = ls at hl ⊢
  have hl : lv_has ls 5 [(0, .ref M), (1, .int c9), (2, .int b9)] := hl
  have hM : MR D cA A M ad σ s.heap := hI
  have h7 : ∀ w ∈ wsX70, w ∈ wsX7_value := fun _ h => List.mem_cons_of_mem _ (List.mem_append_right _ h)
  have hS : va_S A s.heap s.heap [] := va_S.rf
  refine lv_aload_n hx hb dX7_value_0 rfl (lv_at hl 0 rfl) ?_
  refine lv_iload_n hx hb dX7_value_1 rfl (lv_at hl 1 rfl) ?_
  refine lv_iload_n hx hb dX7_value_2 rfl (lv_at hl 2 rfl) ?_
  refine xw_calls (va_runV (As := [.int c9, .int b9]) (rest := []) ⟨hx, hb, hml, hown, hts⟩ (c_X7_goesFor l D cA A M ad σ c9 b9 nC hC hC2) (cwV 2 hts gX7_value_X7_goesFor rfl rfl rfl (by decide +kernel) ⟨Nat.le_of_ble_eq_true rfl, Nat.le_of_ble_eq_true rfl⟩) (xPV hK hM.1 rfl hM) rfl rfl hl.1 rfl (lv_room (Nat.le_of_ble_eq_true rfl)) dX7_value_3 ⟨Nat.le_of_ble_eq_true rfl, Nat.le_of_ble_eq_true rfl⟩) hS (fun _ _ h => h) (fun _ h => h) (fun H locs hM _ _ hS => ?_)
  refine xb_ne (tgt := 11) hx hb dX7_value_6 (by decide) (fun c_1 => ?_) (fun c_1 => ?_)
  · have z_c_1 : okN nC c9 = true ∧ okS b9 = true := by simpa using c_1
    have y_c_1 : kFo nC c9 b9 = 0 := by rw [kFo, if_pos c_1]
    obtain ⟨j_c, hj_c, rfl⟩ := okN_of (by omega) z_c_1.1
    obtain ⟨j_b, hj_b, rfl⟩ := okS_of z_c_1.2
    have ec : ix (nI j_c) = j_c := ix_nI (by omega)
    have eb : ix (nI j_b) = j_b := ix_nI (by omega)
    refine lv_aload_n hx hb dX7_value_11 rfl (lv_at hl 0 rfl) ?_
    refine lv_iload_n hx hb dX7_value_12 rfl (lv_at hl 1 rfl) ?_
    refine lv_iload_n hx hb dX7_value_13 rfl (lv_at hl 2 rfl) ?_
    refine lv_iconst (v := (-1)) hx hb dX7_value_14 (by decide) ?_
    refine xw_calls (va_runV (As := [.int (nI j_c), .int (nI j_b), .int (-1)]) (rest := []) ⟨hx, hb, hml, hown, hts⟩ (c_X7_asks l D cA A M ad (sg σ 25 (kFo nC (nI j_c) (nI j_b))) j_c j_b none σ (PE.rf.sg 25 _ (by decide)) nL hL hL2 (by omega) (by omega) (fun _ h => by cases h) (hdec j_c none (by omega) (fun _ h => by cases h))) (cwV 3 hts gX7_value_X7_asks rfl rfl rfl (by decide +kernel) ⟨Nat.le_of_ble_eq_true rfl, Nat.le_of_ble_eq_true rfl⟩) (xPV hK hM.1 rfl hM) rfl rfl hl.1 rfl (lv_room (Nat.le_of_ble_eq_true rfl)) dX7_value_15 ⟨Nat.le_of_ble_eq_true rfl, Nat.le_of_ble_eq_true rfl⟩) hS (fun _ _ h => h) (fun _ h => h) (fun H locs hM _ _ hS => ?_)
    obtain ⟨s1, hM, p_s1, t_s1, u_s1, k_s1, q_s1⟩ := hM
    refine lv_lstore_n (lv' := [(3, .long (akV (akE σ j_c none nL j_b) j_b)), (0, .ref M), (1, .int (nI j_c)), (2, .int (nI j_b))]) hx hb dX7_value_18 rfl hl (by decide) rfl (fun ls hl => ?_)
    refine lv_aload_n hx hb dX7_value_19 rfl (lv_at hl 1 rfl) ?_
    refine lv_aload_n hx hb dX7_value_20 rfl (lv_at hl 1 rfl) ?_
    refine m_get (v := .int (akT (akE σ j_c none nL j_b))) hx hb hts h7 hown hK hM 23 (by decide) (hts (.fieldLink RX7 159 "ConfigBeaconModel" "status" "I") (by decide +kernel)) (by show some (Value.int (s1.1 23)) = _; rw [k_s1]) dX7_value_21 ?_
    refine lv_if_ne (tgt := 31) hx hb dX7_value_24 (by decide) (fun c_2 => ?_) (fun c_2 => ?_)
    · refine lv_iconst (v := 2) hx hb dX7_value_31 (by decide) ?_
      refine xw_calls (va_runV (As := [.int 2]) (rest := []) ⟨hx, hb, hml, hown, hts⟩ (c_X7_goes l D cA A M ad s1 2) (cwV 1 hts gX7_value_X7_goes rfl rfl rfl (by decide +kernel) ⟨Nat.le_of_ble_eq_true rfl, Nat.le_of_ble_eq_true rfl⟩) (xPV hK hM.1 rfl hM) rfl rfl hl.1 rfl (lv_room (Nat.le_of_ble_eq_true rfl)) dX7_value_32 ⟨Nat.le_of_ble_eq_true rfl, Nat.le_of_ble_eq_true rfl⟩) hS (fun _ _ h => h) (fun _ h => h) (fun H locs hM _ _ hS => ?_)
      refine xb_eq (tgt := 42) hx hb dX7_value_35 (by decide) (fun _ => ?_) (fun c_3 => absurd c_3 (by decide))
      refine lv_lconst (v := 0) hx hb dX7_value_42 (by decide) ?_
      exact xw_lret hx hb hr hlocks hS (mJ_no (w := 2) hM (by rw [kVa, if_pos y_c_1, ec, eb, if_neg c_2]) (by decide) rfl (p_s1.sg 25 _ (by decide))) (Nat.le_refl _) (Nat.le_refl _) dX7_value_43
    · refine lv_iconst (v := 0) hx hb dX7_value_27 (by decide) ?_
      refine lv_goto (tgt := 32) hx hb dX7_value_28 (by decide) ?_
      refine xw_calls (va_runV (As := [.int 0]) (rest := []) ⟨hx, hb, hml, hown, hts⟩ (c_X7_goes l D cA A M ad s1 0) (cwV 1 hts gX7_value_X7_goes rfl rfl rfl (by decide +kernel) ⟨Nat.le_of_ble_eq_true rfl, Nat.le_of_ble_eq_true rfl⟩) (xPV hK hM.1 rfl hM) rfl rfl hl.1 rfl (lv_room (Nat.le_of_ble_eq_true rfl)) dX7_value_32 ⟨Nat.le_of_ble_eq_true rfl, Nat.le_of_ble_eq_true rfl⟩) hS (fun _ _ h => h) (fun _ h => h) (fun H locs hM _ _ hS => ?_)
      refine xb_eq (tgt := 42) hx hb dX7_value_35 (by decide) (fun c_4 => absurd c_4 (by decide)) (fun _ => ?_)
      refine lv_lload_n hx hb dX7_value_38 rfl (lv_at hl 0 rfl) ?_
      refine lv_goto (tgt := 43) hx hb dX7_value_39 (by decide) ?_
      exact xw_lret hx hb hr hlocks hS (mJ_ok hM (by rw [kVa, if_pos y_c_1, ec, eb, if_pos c_2]) rfl ⟨by rw [ec, eb], p_s1.sg 25 _ (by decide)⟩) (Nat.le_refl _) (Nat.le_refl _) dX7_value_43
  · have y_c_1 : ¬ kFo nC c9 b9 = 0 := by rw [kFo, c_1]; decide
    refine lv_lconst (v := 0) hx hb dX7_value_9 (by decide) ?_
    exact xw_lret hx hb hr hlocks hS (mJ_no hM (by rw [kVa, if_neg y_c_1]) y_c_1 rfl (PE.rf.sg 25 _ (by decide))) (Nat.le_refl _) (Nat.le_refl _) dX7_value_10
set_option maxHeartbeats 4000000 in
set_option maxRecDepth 100000 in
theorem c_X7_valueAt (l : Launch) (D : va_G) (cA : Nat → ClassId) (A : Nat → Prop) (M : Nat) (ad : Nat → Nat) (σ : MS) (v9 : Int32) (c9 : Int32) (b9 : Int32) (nL : Nat) (hL : σ.1 6 = nI nL) (hL2 : nL ≤ 8) (nC : Nat) (hC : σ.1 2 = nI nC) (hC2 : nC ≤ 12) (hdec : dcOk σ.2.1 nL) (nV : Nat) (hV : σ.1 13 = nI nV) (hV2 : nV ≤ 512) : Met l yX7_valueAt wsX7_valueAt (rmK 6 0 0) (xP D cA [.ref M, .int v9, .int c9, .int b9] (MR D cA A M ad σ)) (xW (mJ D cA A M ad σ (kVt σ nL nC nV v9 c9 b9) (fun r τ => r = some (.long (akV (akE σ (ix c9) (some (ix v9)) nL (ix b9)) (ix b9))) ∧ PE τ σ)) A) 0 0 A := by
  refine Met.ofW (cc := cX7_valueAt) (maxL := 6) (ret := (some .long)) (by decide) rfl ?_
  intro p e s m args below meth c s₁ B hml hv
  obtain ⟨rfl, hK, hI⟩ := hv
  have hx := B.exec
  have hb := B.bytes
  have hr := B.returns
  have hts := atoms_spec (ws := wsX7_valueAt) B.pre
  have hown : s.vm.findClass RX7 = some m.cls := findClass_of_methodNamed B.named
  have hlocks := B.notSynchronized
  have hl := lv_entry ([.ref M, .int v9, .int c9, .int b9]) (n := 6) (Nat.le_of_ble_eq_true rfl)
  rw [lg_entry_eq]
  generalize (lg_sl ([.ref M, .int v9, .int c9, .int b9]) ++ List.replicate (6 - (lg_sl ([.ref M, .int v9, .int c9, .int b9])).length) Slot.unset).toArray = ls at hl ⊢
  have hl : lv_has ls 6 [(0, .ref M), (1, .int v9), (2, .int c9), (3, .int b9)] := hl
  have hM : MR D cA A M ad σ s.heap := hI
  have h7 : ∀ w ∈ wsX70, w ∈ wsX7_valueAt := fun _ h => List.mem_cons_of_mem _ (List.mem_append_right _ h)
  have hS : va_S A s.heap s.heap [] := va_S.rf
  refine lv_aload_n hx hb dX7_valueAt_0 rfl (lv_at hl 0 rfl) ?_
  refine lv_iload_n hx hb dX7_valueAt_1 rfl (lv_at hl 1 rfl) ?_
  refine lv_iload_n hx hb dX7_valueAt_2 rfl (lv_at hl 2 rfl) ?_
  refine lv_iload_n hx hb dX7_valueAt_3 rfl (lv_at hl 3 rfl) ?_
  refine xw_calls (va_runV (As := [.int v9, .int c9, .int b9]) (rest := []) ⟨hx, hb, hml, hown, hts⟩ (c_X7_goesAt l D cA A M ad σ v9 c9 b9 nC hC hC2 nV hV hV2) (cwV 3 hts gX7_valueAt_X7_goesAt rfl rfl rfl (by decide +kernel) ⟨Nat.le_of_ble_eq_true rfl, Nat.le_of_ble_eq_true rfl⟩) (xPV hK hM.1 rfl hM) rfl rfl hl.1 rfl (lv_room (Nat.le_of_ble_eq_true rfl)) dX7_valueAt_4 ⟨Nat.le_of_ble_eq_true rfl, Nat.le_of_ble_eq_true rfl⟩) hS (fun _ _ h => h) (fun _ h => h) (fun H locs hM _ _ hS => ?_)
  refine xb_ne (tgt := 12) hx hb dX7_valueAt_7 (by decide) (fun c_1 => ?_) (fun c_1 => ?_)
  · have z_c_1 : okN (nV + 1) v9 = true ∧ okN nC c9 = true ∧ okS b9 = true := by simpa using c_1
    have y_c_1 : kAt nC nV v9 c9 b9 = 0 := by rw [kAt, if_pos c_1]
    obtain ⟨j_v, hj_v, rfl⟩ := okN_of (by omega) z_c_1.1
    have ev9 : ix (nI j_v) = j_v := ix_nI (by omega)
    obtain ⟨j_c, hj_c, rfl⟩ := okN_of (by omega) z_c_1.2.1
    obtain ⟨j_b, hj_b, rfl⟩ := okS_of z_c_1.2.2
    have ec : ix (nI j_c) = j_c := ix_nI (by omega)
    have eb : ix (nI j_b) = j_b := ix_nI (by omega)
    refine lv_aload_n hx hb dX7_valueAt_12 rfl (lv_at hl 0 rfl) ?_
    refine lv_iload_n hx hb dX7_valueAt_13 rfl (lv_at hl 2 rfl) ?_
    refine lv_iload_n hx hb dX7_valueAt_14 rfl (lv_at hl 3 rfl) ?_
    refine lv_iload_n hx hb dX7_valueAt_15 rfl (lv_at hl 1 rfl) ?_
    refine xw_calls (va_runV (As := [.int (nI j_c), .int (nI j_b), .int (nI j_v)]) (rest := []) ⟨hx, hb, hml, hown, hts⟩ (c_X7_asks l D cA A M ad (sg σ 25 (kAt nC nV (nI j_v) (nI j_c) (nI j_b))) j_c j_b (some j_v) σ (PE.rf.sg 25 _ (by decide)) nL hL hL2 (by omega) (by omega) (fun v h => by cases h; omega) (hdec j_c (some j_v) (by omega) (fun v h => by cases h; omega))) (cwV 3 hts gX7_valueAt_X7_asks rfl rfl rfl (by decide +kernel) ⟨Nat.le_of_ble_eq_true rfl, Nat.le_of_ble_eq_true rfl⟩) (xPV hK hM.1 rfl hM) rfl rfl hl.1 rfl (lv_room (Nat.le_of_ble_eq_true rfl)) dX7_valueAt_16 ⟨Nat.le_of_ble_eq_true rfl, Nat.le_of_ble_eq_true rfl⟩) hS (fun _ _ h => h) (fun _ h => h) (fun H locs hM _ _ hS => ?_)
    obtain ⟨s2, hM, p_s2, t_s2, u_s2, k_s2, q_s2⟩ := hM
    refine lv_lstore (lv' := [(4, .long (akV (akE σ j_c (some j_v) nL j_b) j_b)), (0, .ref M), (1, .int (nI j_v)), (2, .int (nI j_c)), (3, .int (nI j_b))]) hx hb dX7_valueAt_19 hl (by decide) rfl (fun ls hl => ?_)
    refine lv_aload_n hx hb dX7_valueAt_21 rfl (lv_at hl 1 rfl) ?_
    refine lv_aload_n hx hb dX7_valueAt_22 rfl (lv_at hl 1 rfl) ?_
    refine m_get (v := .int (akT (akE σ j_c (some j_v) nL j_b))) hx hb hts h7 hown hK hM 23 (by decide) (hts (.fieldLink RX7 159 "ConfigBeaconModel" "status" "I") (by decide +kernel)) (by show some (Value.int (s2.1 23)) = _; rw [k_s2]) dX7_valueAt_23 ?_
    refine lv_if_ne (tgt := 33) hx hb dX7_valueAt_26 (by decide) (fun c_2 => ?_) (fun c_2 => ?_)
    · refine lv_iconst (v := 2) hx hb dX7_valueAt_33 (by decide) ?_
      refine xw_calls (va_runV (As := [.int 2]) (rest := []) ⟨hx, hb, hml, hown, hts⟩ (c_X7_goes l D cA A M ad s2 2) (cwV 1 hts gX7_valueAt_X7_goes rfl rfl rfl (by decide +kernel) ⟨Nat.le_of_ble_eq_true rfl, Nat.le_of_ble_eq_true rfl⟩) (xPV hK hM.1 rfl hM) rfl rfl hl.1 rfl (lv_room (Nat.le_of_ble_eq_true rfl)) dX7_valueAt_34 ⟨Nat.le_of_ble_eq_true rfl, Nat.le_of_ble_eq_true rfl⟩) hS (fun _ _ h => h) (fun _ h => h) (fun H locs hM _ _ hS => ?_)
      refine xb_eq (tgt := 45) hx hb dX7_valueAt_37 (by decide) (fun _ => ?_) (fun c_3 => absurd c_3 (by decide))
      refine lv_lconst (v := 0) hx hb dX7_valueAt_45 (by decide) ?_
      exact xw_lret hx hb hr hlocks hS (mJ_no (w := 2) hM (by rw [kVt, if_pos y_c_1, ev9, ec, eb, if_neg c_2]) (by decide) rfl (p_s2.sg 25 _ (by decide))) (Nat.le_refl _) (Nat.le_refl _) dX7_valueAt_46
    · refine lv_iconst (v := 0) hx hb dX7_valueAt_29 (by decide) ?_
      refine lv_goto (tgt := 34) hx hb dX7_valueAt_30 (by decide) ?_
      refine xw_calls (va_runV (As := [.int 0]) (rest := []) ⟨hx, hb, hml, hown, hts⟩ (c_X7_goes l D cA A M ad s2 0) (cwV 1 hts gX7_valueAt_X7_goes rfl rfl rfl (by decide +kernel) ⟨Nat.le_of_ble_eq_true rfl, Nat.le_of_ble_eq_true rfl⟩) (xPV hK hM.1 rfl hM) rfl rfl hl.1 rfl (lv_room (Nat.le_of_ble_eq_true rfl)) dX7_valueAt_34 ⟨Nat.le_of_ble_eq_true rfl, Nat.le_of_ble_eq_true rfl⟩) hS (fun _ _ h => h) (fun _ h => h) (fun H locs hM _ _ hS => ?_)
      refine xb_eq (tgt := 45) hx hb dX7_valueAt_37 (by decide) (fun c_4 => absurd c_4 (by decide)) (fun _ => ?_)
      refine lv_lload hx hb dX7_valueAt_40 (lv_at hl 0 rfl) ?_
      refine lv_goto (tgt := 46) hx hb dX7_valueAt_42 (by decide) ?_
      exact xw_lret hx hb hr hlocks hS (mJ_ok hM (by rw [kVt, if_pos y_c_1, ev9, ec, eb, if_pos c_2]) rfl ⟨by rw [ev9, ec, eb], p_s2.sg 25 _ (by decide)⟩) (Nat.le_refl _) (Nat.le_refl _) dX7_valueAt_46
  · have y_c_1 : ¬ kAt nC nV v9 c9 b9 = 0 := by rw [kAt, c_1]; decide
    refine lv_lconst (v := 0) hx hb dX7_valueAt_10 (by decide) ?_
    exact xw_lret hx hb hr hlocks hS (mJ_no hM (by rw [kVt, if_neg y_c_1]) y_c_1 rfl (PE.rf.sg 25 _ (by decide))) (Nat.le_refl _) (Nat.le_refl _) dX7_valueAt_11
set_option maxHeartbeats 4000000 in
set_option maxRecDepth 100000 in
theorem c_X7_status (l : Launch) (D : va_G) (cA : Nat → ClassId) (A : Nat → Prop) (M : Nat) (ad : Nat → Nat) (σ : MS) (c9 : Int32) (b9 : Int32) (nL : Nat) (hL : σ.1 6 = nI nL) (hL2 : nL ≤ 8) (nC : Nat) (hC : σ.1 2 = nI nC) (hC2 : nC ≤ 12) (hdec : dcOk σ.2.1 nL) : Met l yX7_status wsX7_status (rmK 6 0 0) (xP D cA [.ref M, .int c9, .int b9] (MR D cA A M ad σ)) (xW (mJ D cA A M ad σ (kFo nC c9 b9) (fun r τ => r = some (.int (akT (akE σ (ix c9) none nL (ix b9)))) ∧ PE τ σ)) A) 0 0 A := by
  refine Met.ofW (cc := cX7_status) (maxL := 5) (ret := (some .int)) (by decide) rfl ?_
  intro p e s m args below meth c s₁ B hml hv
  obtain ⟨rfl, hK, hI⟩ := hv
  have hx := B.exec
  have hb := B.bytes
  have hr := B.returns
  have hts := atoms_spec (ws := wsX7_status) B.pre
  have hown : s.vm.findClass RX7 = some m.cls := findClass_of_methodNamed B.named
  have hlocks := B.notSynchronized
  have hl := lv_entry ([.ref M, .int c9, .int b9]) (n := 5) (Nat.le_of_ble_eq_true rfl)
  rw [lg_entry_eq]
  generalize (lg_sl ([.ref M, .int c9, .int b9]) ++ List.replicate (5 - (lg_sl ([.ref M, .int c9, .int b9])).length) Slot.unset).toArray = ls at hl ⊢
  have hl : lv_has ls 5 [(0, .ref M), (1, .int c9), (2, .int b9)] := hl
  have hM : MR D cA A M ad σ s.heap := hI
  have h7 : ∀ w ∈ wsX70, w ∈ wsX7_status := fun _ h => List.mem_cons_of_mem _ (List.mem_append_right _ h)
  have hS : va_S A s.heap s.heap [] := va_S.rf
  refine lv_aload_n hx hb dX7_status_0 rfl (lv_at hl 0 rfl) ?_
  refine lv_iload_n hx hb dX7_status_1 rfl (lv_at hl 1 rfl) ?_
  refine lv_iload_n hx hb dX7_status_2 rfl (lv_at hl 2 rfl) ?_
  refine xw_calls (va_runV (As := [.int c9, .int b9]) (rest := []) ⟨hx, hb, hml, hown, hts⟩ (c_X7_goesFor l D cA A M ad σ c9 b9 nC hC hC2) (cwV 2 hts gX7_status_X7_goesFor rfl rfl rfl (by decide +kernel) ⟨Nat.le_of_ble_eq_true rfl, Nat.le_of_ble_eq_true rfl⟩) (xPV hK hM.1 rfl hM) rfl rfl hl.1 rfl (lv_room (Nat.le_of_ble_eq_true rfl)) dX7_status_3 ⟨Nat.le_of_ble_eq_true rfl, Nat.le_of_ble_eq_true rfl⟩) hS (fun _ _ h => h) (fun _ h => h) (fun H locs hM _ _ hS => ?_)
  refine xb_ne (tgt := 11) hx hb dX7_status_6 (by decide) (fun c_1 => ?_) (fun c_1 => ?_)
  · have z_c_1 : okN nC c9 = true ∧ okS b9 = true := by simpa using c_1
    have y_c_1 : kFo nC c9 b9 = 0 := by rw [kFo, if_pos c_1]
    obtain ⟨j_c, hj_c, rfl⟩ := okN_of (by omega) z_c_1.1
    obtain ⟨j_b, hj_b, rfl⟩ := okS_of z_c_1.2
    have ec : ix (nI j_c) = j_c := ix_nI (by omega)
    have eb : ix (nI j_b) = j_b := ix_nI (by omega)
    refine lv_aload_n hx hb dX7_status_11 rfl (lv_at hl 0 rfl) ?_
    refine lv_iload_n hx hb dX7_status_12 rfl (lv_at hl 1 rfl) ?_
    refine lv_iload_n hx hb dX7_status_13 rfl (lv_at hl 2 rfl) ?_
    refine lv_iconst (v := (-1)) hx hb dX7_status_14 (by decide) ?_
    refine xw_calls (va_runV (As := [.int (nI j_c), .int (nI j_b), .int (-1)]) (rest := []) ⟨hx, hb, hml, hown, hts⟩ (c_X7_asks l D cA A M ad (sg σ 25 (kFo nC (nI j_c) (nI j_b))) j_c j_b none σ (PE.rf.sg 25 _ (by decide)) nL hL hL2 (by omega) (by omega) (fun _ h => by cases h) (hdec j_c none (by omega) (fun _ h => by cases h))) (cwV 3 hts gX7_status_X7_asks rfl rfl rfl (by decide +kernel) ⟨Nat.le_of_ble_eq_true rfl, Nat.le_of_ble_eq_true rfl⟩) (xPV hK hM.1 rfl hM) rfl rfl hl.1 rfl (lv_room (Nat.le_of_ble_eq_true rfl)) dX7_status_15 ⟨Nat.le_of_ble_eq_true rfl, Nat.le_of_ble_eq_true rfl⟩) hS (fun _ _ h => h) (fun _ h => h) (fun H locs hM _ _ hS => ?_)
    obtain ⟨s3, hM, p_s3, t_s3, u_s3, k_s3, q_s3⟩ := hM
    refine lv_lstore_n (lv' := [(3, .long (akV (akE σ j_c none nL j_b) j_b)), (0, .ref M), (1, .int (nI j_c)), (2, .int (nI j_b))]) hx hb dX7_status_18 rfl hl (by decide) rfl (fun ls hl => ?_)
    refine lv_aload_n hx hb dX7_status_19 rfl (lv_at hl 1 rfl) ?_
    refine m_get (v := .int (akT (akE σ j_c none nL j_b))) hx hb hts h7 hown hK hM 23 (by decide) (hts (.fieldLink RX7 159 "ConfigBeaconModel" "status" "I") (by decide +kernel)) (by show some (Value.int (s3.1 23)) = _; rw [k_s3]) dX7_status_20 ?_
    exact xw_iret hx hb hr hlocks hS (mJ_ok hM y_c_1 (t_s3.trans y_c_1) ⟨by rw [ec, eb], p_s3⟩) (Nat.le_refl _) (Nat.le_refl _) dX7_status_23
  · have y_c_1 : ¬ kFo nC c9 b9 = 0 := by rw [kFo, c_1]; decide
    refine lv_iconst (v := 0) hx hb dX7_status_9 (by decide) ?_
    exact xw_iret hx hb hr hlocks hS (mJ_no hM rfl y_c_1 rfl (PE.rf.sg 25 _ (by decide))) (Nat.le_refl _) (Nat.le_refl _) dX7_status_10
set_option maxHeartbeats 4000000 in
set_option maxRecDepth 100000 in
theorem c_X7_culprit (l : Launch) (D : va_G) (cA : Nat → ClassId) (A : Nat → Prop) (M : Nat) (ad : Nat → Nat) (σ : MS) (c9 : Int32) (b9 : Int32) (nL : Nat) (hL : σ.1 6 = nI nL) (hL2 : nL ≤ 8) (nC : Nat) (hC : σ.1 2 = nI nC) (hC2 : nC ≤ 12) (hdec : dcOk σ.2.1 nL) : Met l yX7_culprit wsX7_culprit (rmK 6 0 0) (xP D cA [.ref M, .int c9, .int b9] (MR D cA A M ad σ)) (xW (mJ D cA A M ad σ (kFo nC c9 b9) (fun r τ => r = some (.int (akQ (akE σ (ix c9) none nL (ix b9)))) ∧ PE τ σ)) A) 0 0 A := by
  refine Met.ofW (cc := cX7_culprit) (maxL := 5) (ret := (some .int)) (by decide) rfl ?_
  intro p e s m args below meth c s₁ B hml hv
  obtain ⟨rfl, hK, hI⟩ := hv
  have hx := B.exec
  have hb := B.bytes
  have hr := B.returns
  have hts := atoms_spec (ws := wsX7_culprit) B.pre
  have hown : s.vm.findClass RX7 = some m.cls := findClass_of_methodNamed B.named
  have hlocks := B.notSynchronized
  have hl := lv_entry ([.ref M, .int c9, .int b9]) (n := 5) (Nat.le_of_ble_eq_true rfl)
  rw [lg_entry_eq]
  generalize (lg_sl ([.ref M, .int c9, .int b9]) ++ List.replicate (5 - (lg_sl ([.ref M, .int c9, .int b9])).length) Slot.unset).toArray = ls at hl ⊢
  have hl : lv_has ls 5 [(0, .ref M), (1, .int c9), (2, .int b9)] := hl
  have hM : MR D cA A M ad σ s.heap := hI
  have h7 : ∀ w ∈ wsX70, w ∈ wsX7_culprit := fun _ h => List.mem_cons_of_mem _ (List.mem_append_right _ h)
  have hS : va_S A s.heap s.heap [] := va_S.rf
  refine lv_aload_n hx hb dX7_culprit_0 rfl (lv_at hl 0 rfl) ?_
  refine lv_iload_n hx hb dX7_culprit_1 rfl (lv_at hl 1 rfl) ?_
  refine lv_iload_n hx hb dX7_culprit_2 rfl (lv_at hl 2 rfl) ?_
  refine xw_calls (va_runV (As := [.int c9, .int b9]) (rest := []) ⟨hx, hb, hml, hown, hts⟩ (c_X7_goesFor l D cA A M ad σ c9 b9 nC hC hC2) (cwV 2 hts gX7_culprit_X7_goesFor rfl rfl rfl (by decide +kernel) ⟨Nat.le_of_ble_eq_true rfl, Nat.le_of_ble_eq_true rfl⟩) (xPV hK hM.1 rfl hM) rfl rfl hl.1 rfl (lv_room (Nat.le_of_ble_eq_true rfl)) dX7_culprit_3 ⟨Nat.le_of_ble_eq_true rfl, Nat.le_of_ble_eq_true rfl⟩) hS (fun _ _ h => h) (fun _ h => h) (fun H locs hM _ _ hS => ?_)
  refine xb_ne (tgt := 11) hx hb dX7_culprit_6 (by decide) (fun c_1 => ?_) (fun c_1 => ?_)
  · have z_c_1 : okN nC c9 = true ∧ okS b9 = true := by simpa using c_1
    have y_c_1 : kFo nC c9 b9 = 0 := by rw [kFo, if_pos c_1]
    obtain ⟨j_c, hj_c, rfl⟩ := okN_of (by omega) z_c_1.1
    obtain ⟨j_b, hj_b, rfl⟩ := okS_of z_c_1.2
    have ec : ix (nI j_c) = j_c := ix_nI (by omega)
    have eb : ix (nI j_b) = j_b := ix_nI (by omega)
    refine lv_aload_n hx hb dX7_culprit_11 rfl (lv_at hl 0 rfl) ?_
    refine lv_iload_n hx hb dX7_culprit_12 rfl (lv_at hl 1 rfl) ?_
    refine lv_iload_n hx hb dX7_culprit_13 rfl (lv_at hl 2 rfl) ?_
    refine lv_iconst (v := (-1)) hx hb dX7_culprit_14 (by decide) ?_
    refine xw_calls (va_runV (As := [.int (nI j_c), .int (nI j_b), .int (-1)]) (rest := []) ⟨hx, hb, hml, hown, hts⟩ (c_X7_asks l D cA A M ad (sg σ 25 (kFo nC (nI j_c) (nI j_b))) j_c j_b none σ (PE.rf.sg 25 _ (by decide)) nL hL hL2 (by omega) (by omega) (fun _ h => by cases h) (hdec j_c none (by omega) (fun _ h => by cases h))) (cwV 3 hts gX7_culprit_X7_asks rfl rfl rfl (by decide +kernel) ⟨Nat.le_of_ble_eq_true rfl, Nat.le_of_ble_eq_true rfl⟩) (xPV hK hM.1 rfl hM) rfl rfl hl.1 rfl (lv_room (Nat.le_of_ble_eq_true rfl)) dX7_culprit_15 ⟨Nat.le_of_ble_eq_true rfl, Nat.le_of_ble_eq_true rfl⟩) hS (fun _ _ h => h) (fun _ h => h) (fun H locs hM _ _ hS => ?_)
    obtain ⟨s4, hM, p_s4, t_s4, u_s4, k_s4, q_s4⟩ := hM
    refine lv_lstore_n (lv' := [(3, .long (akV (akE σ j_c none nL j_b) j_b)), (0, .ref M), (1, .int (nI j_c)), (2, .int (nI j_b))]) hx hb dX7_culprit_18 rfl hl (by decide) rfl (fun ls hl => ?_)
    refine lv_aload_n hx hb dX7_culprit_19 rfl (lv_at hl 1 rfl) ?_
    refine m_get (v := .int (akQ (akE σ j_c none nL j_b))) hx hb hts h7 hown hK hM 24 (by decide) (hts (.fieldLink RX7 162 "ConfigBeaconModel" "culprit" "I") (by decide +kernel)) (by show some (Value.int (s4.1 24)) = _; rw [q_s4]) dX7_culprit_20 ?_
    exact xw_iret hx hb hr hlocks hS (mJ_ok hM y_c_1 (t_s4.trans y_c_1) ⟨by rw [ec, eb], p_s4⟩) (Nat.le_refl _) (Nat.le_refl _) dX7_culprit_23
  · have y_c_1 : ¬ kFo nC c9 b9 = 0 := by rw [kFo, c_1]; decide
    refine lv_iconst (v := 0) hx hb dX7_culprit_9 (by decide) ?_
    exact xw_iret hx hb hr hlocks hS (mJ_no hM rfl y_c_1 rfl (PE.rf.sg 25 _ (by decide))) (Nat.le_refl _) (Nat.le_refl _) dX7_culprit_10
set_option maxHeartbeats 4000000 in
set_option maxRecDepth 100000 in
theorem c_X7_uses (l : Launch) (D : va_G) (cA : Nat → ClassId) (A : Nat → Prop) (M : Nat) (ad : Nat → Nat) (σ : MS) (c9 : Int32) (b9 : Int32) (nL : Nat) (hL : σ.1 6 = nI nL) (hL2 : nL ≤ 8) (nC : Nat) (hC : σ.1 2 = nI nC) (hC2 : nC ≤ 12) (hdec : dcOk σ.2.1 nL) : Met l yX7_uses wsX7_uses (rmK 6 0 0) (xP D cA [.ref M, .int c9, .int b9] (MR D cA A M ad σ)) (xW (mJ D cA A M ad σ (kFo nC c9 b9) (fun r τ => r = some (.int (akE σ (ix c9) none nL (ix b9)).1.1) ∧ PE τ σ)) A) 0 0 A := by
  refine Met.ofW (cc := cX7_uses) (maxL := 5) (ret := (some .int)) (by decide) rfl ?_
  intro p e s m args below meth c s₁ B hml hv
  obtain ⟨rfl, hK, hI⟩ := hv
  have hx := B.exec
  have hb := B.bytes
  have hr := B.returns
  have hts := atoms_spec (ws := wsX7_uses) B.pre
  have hown : s.vm.findClass RX7 = some m.cls := findClass_of_methodNamed B.named
  have hlocks := B.notSynchronized
  have hl := lv_entry ([.ref M, .int c9, .int b9]) (n := 5) (Nat.le_of_ble_eq_true rfl)
  rw [lg_entry_eq]
  generalize (lg_sl ([.ref M, .int c9, .int b9]) ++ List.replicate (5 - (lg_sl ([.ref M, .int c9, .int b9])).length) Slot.unset).toArray = ls at hl ⊢
  have hl : lv_has ls 5 [(0, .ref M), (1, .int c9), (2, .int b9)] := hl
  have hM : MR D cA A M ad σ s.heap := hI
  have h7 : ∀ w ∈ wsX70, w ∈ wsX7_uses := fun _ h => List.mem_cons_of_mem _ (List.mem_append_right _ h)
  have hS : va_S A s.heap s.heap [] := va_S.rf
  refine lv_aload_n hx hb dX7_uses_0 rfl (lv_at hl 0 rfl) ?_
  refine lv_iload_n hx hb dX7_uses_1 rfl (lv_at hl 1 rfl) ?_
  refine lv_iload_n hx hb dX7_uses_2 rfl (lv_at hl 2 rfl) ?_
  refine xw_calls (va_runV (As := [.int c9, .int b9]) (rest := []) ⟨hx, hb, hml, hown, hts⟩ (c_X7_goesFor l D cA A M ad σ c9 b9 nC hC hC2) (cwV 2 hts gX7_uses_X7_goesFor rfl rfl rfl (by decide +kernel) ⟨Nat.le_of_ble_eq_true rfl, Nat.le_of_ble_eq_true rfl⟩) (xPV hK hM.1 rfl hM) rfl rfl hl.1 rfl (lv_room (Nat.le_of_ble_eq_true rfl)) dX7_uses_3 ⟨Nat.le_of_ble_eq_true rfl, Nat.le_of_ble_eq_true rfl⟩) hS (fun _ _ h => h) (fun _ h => h) (fun H locs hM _ _ hS => ?_)
  refine xb_ne (tgt := 11) hx hb dX7_uses_6 (by decide) (fun c_1 => ?_) (fun c_1 => ?_)
  · have z_c_1 : okN nC c9 = true ∧ okS b9 = true := by simpa using c_1
    have y_c_1 : kFo nC c9 b9 = 0 := by rw [kFo, if_pos c_1]
    obtain ⟨j_c, hj_c, rfl⟩ := okN_of (by omega) z_c_1.1
    obtain ⟨j_b, hj_b, rfl⟩ := okS_of z_c_1.2
    have ec : ix (nI j_c) = j_c := ix_nI (by omega)
    have eb : ix (nI j_b) = j_b := ix_nI (by omega)
    refine lv_aload_n hx hb dX7_uses_11 rfl (lv_at hl 0 rfl) ?_
    refine lv_iload_n hx hb dX7_uses_12 rfl (lv_at hl 1 rfl) ?_
    refine lv_iload_n hx hb dX7_uses_13 rfl (lv_at hl 2 rfl) ?_
    refine lv_iconst (v := (-1)) hx hb dX7_uses_14 (by decide) ?_
    refine xw_calls (va_runV (As := [.int (nI j_c), .int (nI j_b), .int (-1)]) (rest := []) ⟨hx, hb, hml, hown, hts⟩ (c_X7_asks l D cA A M ad (sg σ 25 (kFo nC (nI j_c) (nI j_b))) j_c j_b none σ (PE.rf.sg 25 _ (by decide)) nL hL hL2 (by omega) (by omega) (fun _ h => by cases h) (hdec j_c none (by omega) (fun _ h => by cases h))) (cwV 3 hts gX7_uses_X7_asks rfl rfl rfl (by decide +kernel) ⟨Nat.le_of_ble_eq_true rfl, Nat.le_of_ble_eq_true rfl⟩) (xPV hK hM.1 rfl hM) rfl rfl hl.1 rfl (lv_room (Nat.le_of_ble_eq_true rfl)) dX7_uses_15 ⟨Nat.le_of_ble_eq_true rfl, Nat.le_of_ble_eq_true rfl⟩) hS (fun _ _ h => h) (fun _ h => h) (fun H locs hM _ _ hS => ?_)
    obtain ⟨s5, hM, p_s5, t_s5, u_s5, k_s5, q_s5⟩ := hM
    refine lv_lstore_n (lv' := [(3, .long (akV (akE σ j_c none nL j_b) j_b)), (0, .ref M), (1, .int (nI j_c)), (2, .int (nI j_b))]) hx hb dX7_uses_18 rfl hl (by decide) rfl (fun ls hl => ?_)
    refine lv_aload_n hx hb dX7_uses_19 rfl (lv_at hl 1 rfl) ?_
    refine m_get (v := .int ((akE σ j_c none nL j_b).1.1)) hx hb hts h7 hown hK hM 22 (by decide) (hts (.fieldLink RX7 168 "ConfigBeaconModel" "used" "I") (by decide +kernel)) (by show some (Value.int (s5.1 22)) = _; rw [u_s5]) dX7_uses_20 ?_
    exact xw_iret hx hb hr hlocks hS (mJ_ok hM y_c_1 (t_s5.trans y_c_1) ⟨by rw [ec, eb], p_s5⟩) (Nat.le_refl _) (Nat.le_refl _) dX7_uses_23
  · have y_c_1 : ¬ kFo nC c9 b9 = 0 := by rw [kFo, c_1]; decide
    refine lv_iconst (v := 0) hx hb dX7_uses_9 (by decide) ?_
    exact xw_iret hx hb hr hlocks hS (mJ_no hM rfl y_c_1 rfl (PE.rf.sg 25 _ (by decide))) (Nat.le_refl _) (Nat.le_refl _) dX7_uses_10
set_option maxHeartbeats 4000000 in
set_option maxRecDepth 100000 in
theorem c_X7_statusAt (l : Launch) (D : va_G) (cA : Nat → ClassId) (A : Nat → Prop) (M : Nat) (ad : Nat → Nat) (σ : MS) (v9 : Int32) (c9 : Int32) (b9 : Int32) (nL : Nat) (hL : σ.1 6 = nI nL) (hL2 : nL ≤ 8) (nC : Nat) (hC : σ.1 2 = nI nC) (hC2 : nC ≤ 12) (hdec : dcOk σ.2.1 nL) (nV : Nat) (hV : σ.1 13 = nI nV) (hV2 : nV ≤ 512) : Met l yX7_statusAt wsX7_statusAt (rmK 6 0 0) (xP D cA [.ref M, .int v9, .int c9, .int b9] (MR D cA A M ad σ)) (xW (mJ D cA A M ad σ (kAt nC nV v9 c9 b9) (fun r τ => r = some (.int (akT (akE σ (ix c9) (some (ix v9)) nL (ix b9)))) ∧ PE τ σ)) A) 0 0 A := by
  refine Met.ofW (cc := cX7_statusAt) (maxL := 6) (ret := (some .int)) (by decide) rfl ?_
  intro p e s m args below meth c s₁ B hml hv
  obtain ⟨rfl, hK, hI⟩ := hv
  have hx := B.exec
  have hb := B.bytes
  have hr := B.returns
  have hts := atoms_spec (ws := wsX7_statusAt) B.pre
  have hown : s.vm.findClass RX7 = some m.cls := findClass_of_methodNamed B.named
  have hlocks := B.notSynchronized
  have hl := lv_entry ([.ref M, .int v9, .int c9, .int b9]) (n := 6) (Nat.le_of_ble_eq_true rfl)
  rw [lg_entry_eq]
  generalize (lg_sl ([.ref M, .int v9, .int c9, .int b9]) ++ List.replicate (6 - (lg_sl ([.ref M, .int v9, .int c9, .int b9])).length) Slot.unset).toArray = ls at hl ⊢
  have hl : lv_has ls 6 [(0, .ref M), (1, .int v9), (2, .int c9), (3, .int b9)] := hl
  have hM : MR D cA A M ad σ s.heap := hI
  have h7 : ∀ w ∈ wsX70, w ∈ wsX7_statusAt := fun _ h => List.mem_cons_of_mem _ (List.mem_append_right _ h)
  have hS : va_S A s.heap s.heap [] := va_S.rf
  refine lv_aload_n hx hb dX7_statusAt_0 rfl (lv_at hl 0 rfl) ?_
  refine lv_iload_n hx hb dX7_statusAt_1 rfl (lv_at hl 1 rfl) ?_
  refine lv_iload_n hx hb dX7_statusAt_2 rfl (lv_at hl 2 rfl) ?_
  refine lv_iload_n hx hb dX7_statusAt_3 rfl (lv_at hl 3 rfl) ?_
  refine xw_calls (va_runV (As := [.int v9, .int c9, .int b9]) (rest := []) ⟨hx, hb, hml, hown, hts⟩ (c_X7_goesAt l D cA A M ad σ v9 c9 b9 nC hC hC2 nV hV hV2) (cwV 3 hts gX7_statusAt_X7_goesAt rfl rfl rfl (by decide +kernel) ⟨Nat.le_of_ble_eq_true rfl, Nat.le_of_ble_eq_true rfl⟩) (xPV hK hM.1 rfl hM) rfl rfl hl.1 rfl (lv_room (Nat.le_of_ble_eq_true rfl)) dX7_statusAt_4 ⟨Nat.le_of_ble_eq_true rfl, Nat.le_of_ble_eq_true rfl⟩) hS (fun _ _ h => h) (fun _ h => h) (fun H locs hM _ _ hS => ?_)
  refine xb_ne (tgt := 12) hx hb dX7_statusAt_7 (by decide) (fun c_1 => ?_) (fun c_1 => ?_)
  · have z_c_1 : okN (nV + 1) v9 = true ∧ okN nC c9 = true ∧ okS b9 = true := by simpa using c_1
    have y_c_1 : kAt nC nV v9 c9 b9 = 0 := by rw [kAt, if_pos c_1]
    obtain ⟨j_v, hj_v, rfl⟩ := okN_of (by omega) z_c_1.1
    have ev9 : ix (nI j_v) = j_v := ix_nI (by omega)
    obtain ⟨j_c, hj_c, rfl⟩ := okN_of (by omega) z_c_1.2.1
    obtain ⟨j_b, hj_b, rfl⟩ := okS_of z_c_1.2.2
    have ec : ix (nI j_c) = j_c := ix_nI (by omega)
    have eb : ix (nI j_b) = j_b := ix_nI (by omega)
    refine lv_aload_n hx hb dX7_statusAt_12 rfl (lv_at hl 0 rfl) ?_
    refine lv_iload_n hx hb dX7_statusAt_13 rfl (lv_at hl 2 rfl) ?_
    refine lv_iload_n hx hb dX7_statusAt_14 rfl (lv_at hl 3 rfl) ?_
    refine lv_iload_n hx hb dX7_statusAt_15 rfl (lv_at hl 1 rfl) ?_
    refine xw_calls (va_runV (As := [.int (nI j_c), .int (nI j_b), .int (nI j_v)]) (rest := []) ⟨hx, hb, hml, hown, hts⟩ (c_X7_asks l D cA A M ad (sg σ 25 (kAt nC nV (nI j_v) (nI j_c) (nI j_b))) j_c j_b (some j_v) σ (PE.rf.sg 25 _ (by decide)) nL hL hL2 (by omega) (by omega) (fun v h => by cases h; omega) (hdec j_c (some j_v) (by omega) (fun v h => by cases h; omega))) (cwV 3 hts gX7_statusAt_X7_asks rfl rfl rfl (by decide +kernel) ⟨Nat.le_of_ble_eq_true rfl, Nat.le_of_ble_eq_true rfl⟩) (xPV hK hM.1 rfl hM) rfl rfl hl.1 rfl (lv_room (Nat.le_of_ble_eq_true rfl)) dX7_statusAt_16 ⟨Nat.le_of_ble_eq_true rfl, Nat.le_of_ble_eq_true rfl⟩) hS (fun _ _ h => h) (fun _ h => h) (fun H locs hM _ _ hS => ?_)
    obtain ⟨s6, hM, p_s6, t_s6, u_s6, k_s6, q_s6⟩ := hM
    refine lv_lstore (lv' := [(4, .long (akV (akE σ j_c (some j_v) nL j_b) j_b)), (0, .ref M), (1, .int (nI j_v)), (2, .int (nI j_c)), (3, .int (nI j_b))]) hx hb dX7_statusAt_19 hl (by decide) rfl (fun ls hl => ?_)
    refine lv_aload_n hx hb dX7_statusAt_21 rfl (lv_at hl 1 rfl) ?_
    refine m_get (v := .int (akT (akE σ j_c (some j_v) nL j_b))) hx hb hts h7 hown hK hM 23 (by decide) (hts (.fieldLink RX7 159 "ConfigBeaconModel" "status" "I") (by decide +kernel)) (by show some (Value.int (s6.1 23)) = _; rw [k_s6]) dX7_statusAt_22 ?_
    exact xw_iret hx hb hr hlocks hS (mJ_ok hM y_c_1 (t_s6.trans y_c_1) ⟨by rw [ev9, ec, eb], p_s6⟩) (Nat.le_refl _) (Nat.le_refl _) dX7_statusAt_25
  · have y_c_1 : ¬ kAt nC nV v9 c9 b9 = 0 := by rw [kAt, c_1]; decide
    refine lv_iconst (v := 0) hx hb dX7_statusAt_10 (by decide) ?_
    exact xw_iret hx hb hr hlocks hS (mJ_no hM rfl y_c_1 rfl (PE.rf.sg 25 _ (by decide))) (Nat.le_refl _) (Nat.le_refl _) dX7_statusAt_11
set_option maxHeartbeats 4000000 in
set_option maxRecDepth 100000 in
theorem c_X7_layerOf (l : Launch) (D : va_G) (cA : Nat → ClassId) (A : Nat → Prop) (M : Nat) (ad : Nat → Nat) (σ : MS) (c9 : Int32) (b9 : Int32) (nL : Nat) (hL : σ.1 6 = nI nL) (hL2 : nL ≤ 8) (nC : Nat) (hC : σ.1 2 = nI nC) (hC2 : nC ≤ 12) (hdec : dcOk σ.2.1 nL) : Met l yX7_layerOf wsX7_layerOf (rmK 5 0 0) (xP D cA [.ref M, .int c9, .int b9] (MR D cA A M ad σ)) (xW (mJ D cA A M ad σ (kFo nC c9 b9) (fun r τ => r = some (.int (loI (decO σ.2.1 (ix c9) (ix b9) none nL))) ∧ PE τ σ)) A) 0 0 A := by
  refine Met.ofW (cc := cX7_layerOf) (maxL := 3) (ret := (some .int)) (by decide) rfl ?_
  intro p e s m args below meth c s₁ B hml hv
  obtain ⟨rfl, hK, hI⟩ := hv
  have hx := B.exec
  have hb := B.bytes
  have hr := B.returns
  have hts := atoms_spec (ws := wsX7_layerOf) B.pre
  have hown : s.vm.findClass RX7 = some m.cls := findClass_of_methodNamed B.named
  have hlocks := B.notSynchronized
  have hl := lv_entry ([.ref M, .int c9, .int b9]) (n := 3) (Nat.le_of_ble_eq_true rfl)
  rw [lg_entry_eq]
  generalize (lg_sl ([.ref M, .int c9, .int b9]) ++ List.replicate (3 - (lg_sl ([.ref M, .int c9, .int b9])).length) Slot.unset).toArray = ls at hl ⊢
  have hl : lv_has ls 3 [(0, .ref M), (1, .int c9), (2, .int b9)] := hl
  have hM : MR D cA A M ad σ s.heap := hI
  have h7 : ∀ w ∈ wsX70, w ∈ wsX7_layerOf := fun _ h => List.mem_cons_of_mem _ (List.mem_append_right _ h)
  have hS : va_S A s.heap s.heap [] := va_S.rf
  refine lv_aload_n hx hb dX7_layerOf_0 rfl (lv_at hl 0 rfl) ?_
  refine lv_iload_n hx hb dX7_layerOf_1 rfl (lv_at hl 1 rfl) ?_
  refine lv_iload_n hx hb dX7_layerOf_2 rfl (lv_at hl 2 rfl) ?_
  refine xw_calls (va_runV (As := [.int c9, .int b9]) (rest := []) ⟨hx, hb, hml, hown, hts⟩ (c_X7_goesFor l D cA A M ad σ c9 b9 nC hC hC2) (cwV 2 hts gX7_layerOf_X7_goesFor rfl rfl rfl (by decide +kernel) ⟨Nat.le_of_ble_eq_true rfl, Nat.le_of_ble_eq_true rfl⟩) (xPV hK hM.1 rfl hM) rfl rfl hl.1 rfl (lv_room (Nat.le_of_ble_eq_true rfl)) dX7_layerOf_3 ⟨Nat.le_of_ble_eq_true rfl, Nat.le_of_ble_eq_true rfl⟩) hS (fun _ _ h => h) (fun _ h => h) (fun H locs hM _ _ hS => ?_)
  refine xb_eq (tgt := 19) hx hb dX7_layerOf_6 (by decide) (fun c_1 => ?_) (fun c_1 => ?_)
  · have y_c_1 : ¬ kFo nC c9 b9 = 0 := by rw [kFo, c_1]; decide
    refine lv_iconst (v := 0) hx hb dX7_layerOf_19 (by decide) ?_
    exact xw_iret hx hb hr hlocks hS (mJ_no hM rfl y_c_1 rfl (PE.rf.sg 25 _ (by decide))) (Nat.le_refl _) (Nat.le_refl _) dX7_layerOf_20
  · have z_c_1 : okN nC c9 = true ∧ okS b9 = true := by simpa using c_1
    have y_c_1 : kFo nC c9 b9 = 0 := by rw [kFo, if_pos c_1]
    obtain ⟨j_c, hj_c, rfl⟩ := okN_of (by omega) z_c_1.1
    obtain ⟨j_b, hj_b, rfl⟩ := okS_of z_c_1.2
    have ec : ix (nI j_c) = j_c := ix_nI (by omega)
    have eb : ix (nI j_b) = j_b := ix_nI (by omega)
    refine lv_aload_n hx hb dX7_layerOf_9 rfl (lv_at hl 0 rfl) ?_
    refine lv_iload_n hx hb dX7_layerOf_10 rfl (lv_at hl 1 rfl) ?_
    refine lv_iload_n hx hb dX7_layerOf_11 rfl (lv_at hl 2 rfl) ?_
    refine lv_iconst (v := (-1)) hx hb dX7_layerOf_12 (by decide) ?_
    refine xr_call (va_runV (As := [.int (nI j_c), .int (nI j_b), .int (-1)]) (rest := []) ⟨hx, hb, hml, hown, hts⟩ (c_X7_deciding l D cA A M ad (sg σ 25 (kFo nC (nI j_c) (nI j_b))) j_c j_b none nL hL hL2 (by omega) (by omega) (fun _ h => by cases h)) (cwV 3 hts gX7_layerOf_X7_deciding rfl rfl rfl (by decide +kernel) ⟨Nat.le_of_ble_eq_true rfl, Nat.le_of_ble_eq_true rfl⟩) (xPV hK hM.1 rfl hM) rfl rfl hl.1 rfl (lv_room (Nat.le_of_ble_eq_true rfl)) dX7_layerOf_13 ⟨Nat.le_of_ble_eq_true rfl, Nat.le_of_ble_eq_true rfl⟩) ?_
    refine xe_top (show (loI (decO (sg σ 25 (kFo nC (nI j_c) (nI j_b))).2.1 j_c j_b none nL)) = (loI (decO σ.2.1 j_c j_b none nL)) from rfl) ?_
    refine lv_goto (tgt := 20) hx hb dX7_layerOf_16 (by decide) ?_
    exact xw_iret hx hb hr hlocks hS (mJ_ok hM y_c_1 y_c_1 ⟨by rw [ec, eb], PE.rf.sg 25 _ (by decide)⟩) (Nat.le_refl _) (Nat.le_refl _) dX7_layerOf_20
set_option maxHeartbeats 4000000 in
set_option maxRecDepth 100000 in
theorem c_X7_isNew (l : Launch) (D : va_G) (cA : Nat → ClassId) (A : Nat → Prop) (M : Nat) (ad : Nat → Nat) (σ : MS) (c9 : Int32) (b9 : Int32) (nL : Nat) (hL : σ.1 6 = nI nL) (hL2 : nL ≤ 8) (nC : Nat) (hC : σ.1 2 = nI nC) (hC2 : nC ≤ 12) (hdec : dcOk σ.2.1 nL) : Met l yX7_isNew wsX7_isNew (rmK 5 0 0) (xP D cA [.ref M, .int c9, .int b9] (MR D cA A M ad σ)) (xW (mJ D cA A M ad σ (kFo nC c9 b9) (fun r τ => r = some (.int (bI (nwF σ.2.1 (ix c9) (ix b9) nL))) ∧ PE τ σ)) A) 0 0 A := by
  refine Met.ofW (cc := cX7_isNew) (maxL := 4) (ret := (some .boolean)) (by decide) rfl ?_
  intro p e s m args below meth c s₁ B hml hv
  obtain ⟨rfl, hK, hI⟩ := hv
  have hx := B.exec
  have hb := B.bytes
  have hr := B.returns
  have hts := atoms_spec (ws := wsX7_isNew) B.pre
  have hown : s.vm.findClass RX7 = some m.cls := findClass_of_methodNamed B.named
  have hlocks := B.notSynchronized
  have hl := lv_entry ([.ref M, .int c9, .int b9]) (n := 4) (Nat.le_of_ble_eq_true rfl)
  rw [lg_entry_eq]
  generalize (lg_sl ([.ref M, .int c9, .int b9]) ++ List.replicate (4 - (lg_sl ([.ref M, .int c9, .int b9])).length) Slot.unset).toArray = ls at hl ⊢
  have hl : lv_has ls 4 [(0, .ref M), (1, .int c9), (2, .int b9)] := hl
  have hM : MR D cA A M ad σ s.heap := hI
  have h7 : ∀ w ∈ wsX70, w ∈ wsX7_isNew := fun _ h => List.mem_cons_of_mem _ (List.mem_append_right _ h)
  have hS : va_S A s.heap s.heap [] := va_S.rf
  refine lv_aload_n hx hb dX7_isNew_0 rfl (lv_at hl 0 rfl) ?_
  refine lv_iload_n hx hb dX7_isNew_1 rfl (lv_at hl 1 rfl) ?_
  refine lv_iload_n hx hb dX7_isNew_2 rfl (lv_at hl 2 rfl) ?_
  refine xw_calls (va_runV (As := [.int c9, .int b9]) (rest := []) ⟨hx, hb, hml, hown, hts⟩ (c_X7_goesFor l D cA A M ad σ c9 b9 nC hC hC2) (cwV 2 hts gX7_isNew_X7_goesFor rfl rfl rfl (by decide +kernel) ⟨Nat.le_of_ble_eq_true rfl, Nat.le_of_ble_eq_true rfl⟩) (xPV hK hM.1 rfl hM) rfl rfl hl.1 rfl (lv_room (Nat.le_of_ble_eq_true rfl)) dX7_isNew_3 ⟨Nat.le_of_ble_eq_true rfl, Nat.le_of_ble_eq_true rfl⟩) hS (fun _ _ h => h) (fun _ h => h) (fun H locs hM _ _ hS => ?_)
  refine xb_ne (tgt := 11) hx hb dX7_isNew_6 (by decide) (fun c_1 => ?_) (fun c_1 => ?_)
  · have z_c_1 : okN nC c9 = true ∧ okS b9 = true := by simpa using c_1
    have y_c_1 : kFo nC c9 b9 = 0 := by rw [kFo, if_pos c_1]
    obtain ⟨j_c, hj_c, rfl⟩ := okN_of (by omega) z_c_1.1
    obtain ⟨j_b, hj_b, rfl⟩ := okS_of z_c_1.2
    have ec : ix (nI j_c) = j_c := ix_nI (by omega)
    have eb : ix (nI j_b) = j_b := ix_nI (by omega)
    refine lv_aload_n hx hb dX7_isNew_11 rfl (lv_at hl 0 rfl) ?_
    refine lv_iload_n hx hb dX7_isNew_12 rfl (lv_at hl 1 rfl) ?_
    refine lv_iload_n hx hb dX7_isNew_13 rfl (lv_at hl 2 rfl) ?_
    refine lv_iconst (v := (-1)) hx hb dX7_isNew_14 (by decide) ?_
    refine xr_call (va_runV (As := [.int (nI j_c), .int (nI j_b), .int (-1)]) (rest := []) ⟨hx, hb, hml, hown, hts⟩ (c_X7_deciding l D cA A M ad (sg σ 25 (kFo nC (nI j_c) (nI j_b))) j_c j_b none nL hL hL2 (by omega) (by omega) (fun _ h => by cases h)) (cwV 3 hts gX7_isNew_X7_deciding rfl rfl rfl (by decide +kernel) ⟨Nat.le_of_ble_eq_true rfl, Nat.le_of_ble_eq_true rfl⟩) (xPV hK hM.1 rfl hM) rfl rfl hl.1 rfl (lv_room (Nat.le_of_ble_eq_true rfl)) dX7_isNew_15 ⟨Nat.le_of_ble_eq_true rfl, Nat.le_of_ble_eq_true rfl⟩) ?_
    refine xe_top (show (loI (decO (sg σ 25 (kFo nC (nI j_c) (nI j_b))).2.1 j_c j_b none nL)) = (loI (decO σ.2.1 j_c j_b none nL)) from rfl) ?_
    refine lv_istore_n (lv' := [(3, .int (loI (decO σ.2.1 j_c j_b none nL))), (0, .ref M), (1, .int (nI j_c)), (2, .int (nI j_b))]) hx hb dX7_isNew_18 rfl hl (by decide) rfl (fun ls hl => ?_)
    refine lv_iload_n hx hb dX7_isNew_19 rfl (lv_at hl 0 rfl) ?_
    refine lv_iconst (v := (-1)) hx hb dX7_isNew_20 (by decide) ?_
    refine lv_icmp_eq (tgt := 42) hx hb dX7_isNew_21 (by decide) (fun c_2 => ?_) (fun c_2 => ?_)
    · have e_c_2 : (decO σ.2.1 j_c j_b none nL) = none := loI_none (fun j q => by have := (decO_lt q).1; omega) c_2
      refine lv_iconst (v := 0) hx hb dX7_isNew_42 (by decide) ?_
      exact xw_zret hx hb hr hlocks (b := false) rfl hS (mJ_ok hM y_c_1 y_c_1 ⟨by rw [ec, eb, nwF, e_c_2], PE.rf.sg 25 _ (by decide)⟩) (Nat.le_refl _) (Nat.le_refl _) dX7_isNew_43
    · obtain ⟨j9, hj9⟩ := loI_some c_2
      have hj9l := (decO_lt hj9).1
      refine lv_aload_n hx hb dX7_isNew_24 rfl (lv_at hl 1 rfl) ?_
      refine lv_iload_n hx hb dX7_isNew_25 rfl (lv_at hl 2 rfl) ?_
      refine lv_iload_n hx hb dX7_isNew_26 rfl (lv_at hl 0 rfl) ?_
      refine xe_top (show (loI (decO σ.2.1 j_c j_b none nL)) = nI j9 from by rw [hj9]; rfl) ?_
      refine lv_iload_n hx hb dX7_isNew_27 rfl (lv_at hl 3 rfl) ?_
      refine xr_call (va_runS (As := [.int (nI j9), .int (nI j_b)]) (rest := [.int (nI j_c), .ref M]) ⟨hx, hb, hml, hown, hts⟩ (c_X7_cell l D cA j9 j_b) (va_cwS 2 hts gX7_isNew_X7_cell rfl rfl rfl (by decide +kernel) ⟨Nat.le_of_ble_eq_true rfl, Nat.le_of_ble_eq_true rfl⟩) (xPS hK trivial) rfl rfl hl.1 rfl (lv_room (Nat.le_of_ble_eq_true rfl)) dX7_isNew_28 ⟨Nat.le_of_ble_eq_true rfl, Nat.le_of_ble_eq_true rfl⟩) ?_
      refine lv_iconst (v := (-1)) hx hb dX7_isNew_31 (by decide) ?_
      refine xr_call (va_runV (As := [.int (nI j_c), .int (nI (16 * j9 + j_b)), .int (-1)]) (rest := []) ⟨hx, hb, hml, hown, hts⟩ (c_X7_isRolledTo l D cA A M ad (sg σ 25 (kFo nC (nI j_c) (nI j_b))) j_c (16 * j9 + j_b) none (by omega) (by omega) (fun _ h => by cases h)) (cwV 3 hts gX7_isNew_X7_isRolledTo rfl rfl rfl (by decide +kernel) ⟨Nat.le_of_ble_eq_true rfl, Nat.le_of_ble_eq_true rfl⟩) (xPV hK hM.1 rfl hM) rfl rfl hl.1 rfl (lv_room (Nat.le_of_ble_eq_true rfl)) dX7_isNew_32 ⟨Nat.le_of_ble_eq_true rfl, Nat.le_of_ble_eq_true rfl⟩) ?_
      refine xb_eq (tgt := 42) hx hb dX7_isNew_35 (by decide) (fun c_3 => ?_) (fun c_3 => ?_)
      · have c_3 : (rolF σ.2.1 j_c (16 * j9 + j_b) none) = false := c_3
        refine lv_iconst (v := 0) hx hb dX7_isNew_42 (by decide) ?_
        exact xw_zret hx hb hr hlocks (b := false) rfl hS (mJ_ok hM y_c_1 y_c_1 ⟨by rw [ec, eb, nwF, hj9]; exact congrArg (fun z : Bool => some (Value.int (bI z))) c_3.symm, PE.rf.sg 25 _ (by decide)⟩) (Nat.le_refl _) (Nat.le_refl _) dX7_isNew_43
      · have c_3 : (rolF σ.2.1 j_c (16 * j9 + j_b) none) = true := c_3
        refine lv_iconst (v := 1) hx hb dX7_isNew_38 (by decide) ?_
        refine lv_goto (tgt := 43) hx hb dX7_isNew_39 (by decide) ?_
        exact xw_zret hx hb hr hlocks (b := true) rfl hS (mJ_ok hM y_c_1 y_c_1 ⟨by rw [ec, eb, nwF, hj9]; exact congrArg (fun z : Bool => some (Value.int (bI z))) c_3.symm, PE.rf.sg 25 _ (by decide)⟩) (Nat.le_refl _) (Nat.le_refl _) dX7_isNew_43
  · have y_c_1 : ¬ kFo nC c9 b9 = 0 := by rw [kFo, c_1]; decide
    refine lv_iconst (v := 0) hx hb dX7_isNew_9 (by decide) ?_
    exact xw_zret hx hb hr hlocks (b := false) rfl hS (mJ_no hM rfl y_c_1 rfl (PE.rf.sg 25 _ (by decide))) (Nat.le_refl _) (Nat.le_refl _) dX7_isNew_10
set_option maxHeartbeats 4000000 in
set_option maxRecDepth 100000 in
theorem c_X7_found (l : Launch) (D : va_G) (cA : Nat → ClassId) (A : Nat → Prop) (M : Nat) (ad : Nat → Nat) (σ : MS) (k : Int32) (nL : Nat) (hL : σ.1 6 = nI nL) (hL2 : nL ≤ 8) (nC : Nat) (hC : σ.1 2 = nI nC) (hC2 : nC ≤ 12) (hdec : dcOk σ.2.1 nL) : Met l yX7_found wsX7_found (rmK 6 0 0) (xP D cA [.ref M, .int k] (MR D cA A M ad σ)) (xW (mJ D cA A M ad σ (kF1 nC k) (fun r τ => r = some (.int (fnF (fun b => decide (akT (akE σ (ix k) none nL b) = 0)) 16)) ∧ PE τ σ)) A) 0 0 A := by
  refine Met.ofW (cc := cX7_found) (maxL := 7) (ret := (some .int)) (by decide) rfl ?_
  intro p e s m args below meth c s₁ B hml hv
  obtain ⟨rfl, hK, hI⟩ := hv
  have hx := B.exec
  have hb := B.bytes
  have hr := B.returns
  have hts := atoms_spec (ws := wsX7_found) B.pre
  have hown : s.vm.findClass RX7 = some m.cls := findClass_of_methodNamed B.named
  have hlocks := B.notSynchronized
  have hl := lv_entry ([.ref M, .int k]) (n := 7) (Nat.le_of_ble_eq_true rfl)
  rw [lg_entry_eq]
  generalize (lg_sl ([.ref M, .int k]) ++ List.replicate (7 - (lg_sl ([.ref M, .int k])).length) Slot.unset).toArray = ls at hl ⊢
  have hl : lv_has ls 7 [(0, .ref M), (1, .int k)] := hl
  have hM : MR D cA A M ad σ s.heap := hI
  have h7 : ∀ w ∈ wsX70, w ∈ wsX7_found := fun _ h => List.mem_cons_of_mem _ (List.mem_append_right _ h)
  have hS : va_S A s.heap s.heap [] := va_S.rf
  refine lv_iconst (v := 0) hx hb dX7_found_0 (by decide) ?_
  refine lv_istore_n (lv' := [(2, .int 0), (0, .ref M), (1, .int k)]) hx hb dX7_found_1 rfl hl (by decide) rfl (fun ls hl => ?_)
  refine lv_aload_n hx hb dX7_found_2 rfl (lv_at hl 1 rfl) ?_
  refine lv_aload_n hx hb dX7_found_3 rfl (lv_at hl 1 rfl) ?_
  refine lv_iload_n hx hb dX7_found_4 rfl (lv_at hl 2 rfl) ?_
  refine xr_call (va_runV (As := [.int k]) (rest := [.ref M]) ⟨hx, hb, hml, hown, hts⟩ (c_X7_isClient l D cA A M ad σ k nC hC (by omega)) (cwV 1 hts gX7_found_X7_isClient rfl rfl rfl (by decide +kernel) ⟨Nat.le_of_ble_eq_true rfl, Nat.le_of_ble_eq_true rfl⟩) (xPV hK hM.1 rfl hM) rfl rfl hl.1 rfl (lv_room (Nat.le_of_ble_eq_true rfl)) dX7_found_5 ⟨Nat.le_of_ble_eq_true rfl, Nat.le_of_ble_eq_true rfl⟩) ?_
  refine xb_eq (tgt := 15) hx hb dX7_found_8 (by decide) (fun c_1 => ?_) (fun c_1 => ?_)
  · refine lv_iconst (v := 1) hx hb dX7_found_15 (by decide) ?_
    refine xw_calls (va_runV (As := [.int 1]) (rest := []) ⟨hx, hb, hml, hown, hts⟩ (c_X7_goes l D cA A M ad σ 1) (cwV 1 hts gX7_found_X7_goes rfl rfl rfl (by decide +kernel) ⟨Nat.le_of_ble_eq_true rfl, Nat.le_of_ble_eq_true rfl⟩) (xPV hK hM.1 rfl hM) rfl rfl hl.1 rfl (lv_room (Nat.le_of_ble_eq_true rfl)) dX7_found_16 ⟨Nat.le_of_ble_eq_true rfl, Nat.le_of_ble_eq_true rfl⟩) hS (fun _ _ h => h) (fun _ h => h) (fun H locs hM _ _ hS => ?_)
    refine lv_istore_n (lv' := [(3, .int (bI (gz 1))), (2, .int 0), (0, .ref M), (1, .int k)]) hx hb dX7_found_19 rfl hl (by decide) rfl (fun ls hl => ?_)
    refine lv_iconst (v := 0) hx hb dX7_found_20 (by decide) ?_
    refine lv_istore (lv' := [(4, .int 0), (3, .int (bI (gz 1))), (2, .int 0), (0, .ref M), (1, .int k)]) hx hb dX7_found_21 hl (by decide) rfl (fun ls hl => ?_)
    refine lv_iload hx hb dX7_found_23 (lv_at hl 0 rfl) ?_
    refine lv_bipush (v := 16) hx hb dX7_found_25 (by decide) ?_
    refine lv_icmp_ge (tgt := 68) hx hb dX7_found_27 (by decide) (fun c_2 => absurd c_2 (by decide)) (fun _ => ?_)
    refine lv_iload_n hx hb dX7_found_30 rfl (lv_at hl 1 rfl) ?_
    refine xb_eq (tgt := 68) hx hb dX7_found_31 (by decide) (fun _ => ?_) (fun c_3 => absurd c_3 (by decide))
    refine lv_iload_n hx hb dX7_found_68 rfl (lv_at hl 2 rfl) ?_
    exact xw_iret hx hb hr hlocks hS (mJ_no (w := 1) hM (by simp [kF1, c_1]) (by decide) rfl (PE.rf.sg 25 _ (by decide))) (Nat.le_refl _) (Nat.le_refl _) dX7_found_69
  · obtain ⟨j_k, hj_k, ej_k⟩ := okN_of (by omega) c_1
    subst ej_k
    have ij_k : ix (nI j_k) = j_k := ix_nI (by omega)
    refine lv_iconst (v := 0) hx hb dX7_found_11 (by decide) ?_
    refine lv_goto (tgt := 16) hx hb dX7_found_12 (by decide) ?_
    refine xw_calls (va_runV (As := [.int 0]) (rest := []) ⟨hx, hb, hml, hown, hts⟩ (c_X7_goes l D cA A M ad σ 0) (cwV 1 hts gX7_found_X7_goes rfl rfl rfl (by decide +kernel) ⟨Nat.le_of_ble_eq_true rfl, Nat.le_of_ble_eq_true rfl⟩) (xPV hK hM.1 rfl hM) rfl rfl hl.1 rfl (lv_room (Nat.le_of_ble_eq_true rfl)) dX7_found_16 ⟨Nat.le_of_ble_eq_true rfl, Nat.le_of_ble_eq_true rfl⟩) hS (fun _ _ h => h) (fun _ h => h) (fun H locs hM _ _ hS => ?_)
    refine lv_istore_n (lv' := [(3, .int (bI (gz 0))), (2, .int 0), (0, .ref M), (1, .int (nI j_k))]) hx hb dX7_found_19 rfl hl (by decide) rfl (fun ls hl => ?_)
    refine lv_iconst (v := 0) hx hb dX7_found_20 (by decide) ?_
    refine lv_istore (lv' := [(4, .int 0), (3, .int (bI (gz 0))), (2, .int 0), (0, .ref M), (1, .int (nI j_k))]) hx hb dX7_found_21 hl (by decide) rfl (fun ls hl => ?_)
    refine w_loop (fun (x9 : Nat × MS) H locs ls => let i := x9.1; let τ := x9.2; i ≤ 16 ∧ PE τ σ ∧ τ.1 25 = 0 ∧ MR D cA A M ad τ H ∧ va_S A s.heap H locs ∧ lv_has ls 7 [(0, .ref M), (1, .int (nI j_k)), (2, .int (fnF (fun b => decide (akT (akE σ j_k none nL b) = 0)) i)), (3, .int (bI (gz 0))), (4, .int (nI i))]) (fun (x9 : Nat × MS) => let i := x9.1; let τ := x9.2; 16 - i) ?_ (0, (sg σ 25 0)) ⟨Nat.zero_le _, (PE.rf.sg 25 _ (by decide)), rfl, hM, hS, lv_sub hl [3, 4, 2, 1, 0] rfl⟩
    intro x9 H locs ls h9 ih
    obtain ⟨i, τ⟩ := x9
    obtain ⟨hi, hp, h25, hM, hS, hl⟩ := h9
    refine lv_iload hx hb dX7_found_23 (lv_at hl 4 rfl) ?_
    refine lv_bipush (v := 16) hx hb dX7_found_25 (by decide) ?_
    refine lv_icmp_ge (tgt := 68) hx hb dX7_found_27 (by decide) (fun c_4 => ?_) (fun c_4 => ?_)
    · have n_4 : 16 ≤ i := (nI_leI (a := 16) (b := i) (by omega) (by omega)).mp c_4
      refine lv_iload_n hx hb dX7_found_68 rfl (lv_at hl 2 rfl) ?_
      exact xw_iret hx hb hr hlocks hS (mJ_ok hM (by simp [kF1, c_1, c_4]) h25 ⟨by rw [ij_k, show 16 = i by omega], hp⟩) (Nat.le_refl _) (Nat.le_refl _) dX7_found_69
    · have n_4 : i < 16 := Nat.not_le.mp (fun q => c_4 ((nI_leI (a := 16) (b := i) (by omega) (by omega)).mpr q))
      refine lv_iload_n hx hb dX7_found_30 rfl (lv_at hl 3 rfl) ?_
      refine xb_eq (tgt := 68) hx hb dX7_found_31 (by decide) (fun c_5 => absurd c_5 (by decide)) (fun _ => ?_)
      refine lv_aload_n hx hb dX7_found_34 rfl (lv_at hl 0 rfl) ?_
      refine lv_iload_n hx hb dX7_found_35 rfl (lv_at hl 1 rfl) ?_
      refine lv_iload hx hb dX7_found_36 (lv_at hl 4 rfl) ?_
      refine lv_iconst (v := (-1)) hx hb dX7_found_38 (by decide) ?_
      refine xw_calls (va_runV (As := [.int (nI j_k), .int (nI i), .int (-1)]) (rest := []) ⟨hx, hb, hml, hown, hts⟩ (c_X7_asks l D cA A M ad τ j_k i none σ hp nL hL hL2 (by omega) (by omega) (fun _ h => by cases h) (hdec j_k none (by omega) (fun _ h => by cases h))) (cwV 3 hts gX7_found_X7_asks rfl rfl rfl (by decide +kernel) ⟨Nat.le_of_ble_eq_true rfl, Nat.le_of_ble_eq_true rfl⟩) (xPV hK hM.1 rfl hM) rfl rfl hl.1 rfl (lv_room (Nat.le_of_ble_eq_true rfl)) dX7_found_39 ⟨Nat.le_of_ble_eq_true rfl, Nat.le_of_ble_eq_true rfl⟩) hS (fun _ _ h => h) (fun _ h => h) (fun H locs hM _ _ hS => ?_)
      obtain ⟨s7, hM, p_s7, t_s7, u_s7, k_s7, q_s7⟩ := hM
      refine lv_lstore (lv' := [(5, .long (akV (akE σ j_k none nL i) i)), (0, .ref M), (1, .int (nI j_k)), (2, .int (fnF (fun b => decide (akT (akE σ j_k none nL b) = 0)) i)), (3, .int (bI (gz 0))), (4, .int (nI i))]) hx hb dX7_found_42 hl (by decide) rfl (fun ls hl => ?_)
      refine lv_iload_n hx hb dX7_found_44 rfl (lv_at hl 3 rfl) ?_
      refine lv_aload_n hx hb dX7_found_45 rfl (lv_at hl 1 rfl) ?_
      refine m_get (v := .int (akT (akE σ j_k none nL i))) hx hb hts h7 hown hK hM 23 (by decide) (hts (.fieldLink RX7 159 "ConfigBeaconModel" "status" "I") (by decide +kernel)) (by show some (Value.int (s7.1 23)) = _; rw [k_s7]) dX7_found_46 ?_
      refine lv_if_ne (tgt := 59) hx hb dX7_found_49 (by decide) (fun c_6 => ?_) (fun c_6 => ?_)
      · refine lv_iconst (v := 0) hx hb dX7_found_59 (by decide) ?_
        refine lv_ior hx hb dX7_found_60 ?_
        refine xe_top (show ((fnF (fun b => decide (akT (akE σ j_k none nL b) = 0)) i) ||| 0) = fnF (fun b => decide (akT (akE σ j_k none nL b) = 0)) (i + 1) from (fnF_f (p := (fun b => decide (akT (akE σ j_k none nL b) = 0))) (n := i) (decide_eq_false c_6)).symm) ?_
        refine lv_istore_n (lv' := [(2, .int (fnF (fun b => decide (akT (akE σ j_k none nL b) = 0)) (i + 1))), (5, .long (akV (akE σ j_k none nL i) i)), (0, .ref M), (1, .int (nI j_k)), (3, .int (bI (gz 0))), (4, .int (nI i))]) hx hb dX7_found_61 rfl hl (by decide) rfl (fun ls hl => ?_)
        refine lv_iinc (v := (nI (i + 1))) (lv' := [(4, .int (nI (i + 1))), (2, .int (fnF (fun b => decide (akT (akE σ j_k none nL b) = 0)) (i + 1))), (5, .long (akV (akE σ j_k none nL i) i)), (0, .ref M), (1, .int (nI j_k)), (3, .int (bI (gz 0)))]) hx hb dX7_found_62 hl (k := 5) rfl (ni_inc i) (by decide) rfl (fun ls hl => ?_)
        refine lv_goto (tgt := 23) hx hb dX7_found_65 (by decide) ?_
        exact ih ((i + 1), s7) _ _ _ ⟨(by omega), p_s7, (t_s7.trans h25), hM, hS, lv_sub hl [3, 4, 1, 5, 0] rfl⟩ (by show 16 - (i + 1) < 16 - i; omega)
      · refine lv_iconst (v := 1) hx hb dX7_found_52 (by decide) ?_
        refine lv_iload hx hb dX7_found_53 (lv_at hl 5 rfl) ?_
        refine lv_ishl hx hb dX7_found_55 ?_
        refine lv_goto (tgt := 60) hx hb dX7_found_56 (by decide) ?_
        refine lv_ior hx hb dX7_found_60 ?_
        refine xe_top (show ((fnF (fun b => decide (akT (akE σ j_k none nL b) = 0)) i) ||| ((1 : Int32) <<< ((nI i) &&& 31))) = fnF (fun b => decide (akT (akE σ j_k none nL b) = 0)) (i + 1) from (fnF_t (p := (fun b => decide (akT (akE σ j_k none nL b) = 0))) (n := i) (decide_eq_true c_6)).symm) ?_
        refine lv_istore_n (lv' := [(2, .int (fnF (fun b => decide (akT (akE σ j_k none nL b) = 0)) (i + 1))), (5, .long (akV (akE σ j_k none nL i) i)), (0, .ref M), (1, .int (nI j_k)), (3, .int (bI (gz 0))), (4, .int (nI i))]) hx hb dX7_found_61 rfl hl (by decide) rfl (fun ls hl => ?_)
        refine lv_iinc (v := (nI (i + 1))) (lv' := [(4, .int (nI (i + 1))), (2, .int (fnF (fun b => decide (akT (akE σ j_k none nL b) = 0)) (i + 1))), (5, .long (akV (akE σ j_k none nL i) i)), (0, .ref M), (1, .int (nI j_k)), (3, .int (bI (gz 0)))]) hx hb dX7_found_62 hl (k := 5) rfl (ni_inc i) (by decide) rfl (fun ls hl => ?_)
        refine lv_goto (tgt := 23) hx hb dX7_found_65 (by decide) ?_
        exact ih ((i + 1), s7) _ _ _ ⟨(by omega), p_s7, (t_s7.trans h25), hM, hS, lv_sub hl [3, 4, 1, 5, 0] rfl⟩ (by show 16 - (i + 1) < 16 - i; omega)
set_option maxHeartbeats 4000000 in
set_option maxRecDepth 100000 in
theorem c_X7_differ (l : Launch) (D : va_G) (cA : Nat → ClassId) (A : Nat → Prop) (M : Nat) (ad : Nat → Nat) (σ : MS) (k : Int32) (q : Int32) (nL : Nat) (hL : σ.1 6 = nI nL) (hL2 : nL ≤ 8) (nC : Nat) (hC : σ.1 2 = nI nC) (hC2 : nC ≤ 12) (hdec : dcOk σ.2.1 nL) : Met l yX7_differ wsX7_differ (rmK 6 0 0) (xP D cA [.ref M, .int k, .int q] (MR D cA A M ad σ)) (xW (mJ D cA A M ad σ (kF2 nC k q) (fun r τ => r = some (.int (fnF (fun b => difE (akE σ (ix k) none nL b) (akE σ (ix q) none nL b) b) 16)) ∧ PE τ σ)) A) 0 0 A := by
  refine Met.ofW (cc := cX7_differ) (maxL := 12) (ret := (some .int)) (by decide) rfl ?_
  intro p e s m args below meth c s₁ B hml hv
  obtain ⟨rfl, hK, hI⟩ := hv
  have hx := B.exec
  have hb := B.bytes
  have hr := B.returns
  have hts := atoms_spec (ws := wsX7_differ) B.pre
  have hown : s.vm.findClass RX7 = some m.cls := findClass_of_methodNamed B.named
  have hlocks := B.notSynchronized
  have hl := lv_entry ([.ref M, .int k, .int q]) (n := 12) (Nat.le_of_ble_eq_true rfl)
  rw [lg_entry_eq]
  generalize (lg_sl ([.ref M, .int k, .int q]) ++ List.replicate (12 - (lg_sl ([.ref M, .int k, .int q])).length) Slot.unset).toArray = ls at hl ⊢
  have hl : lv_has ls 12 [(0, .ref M), (1, .int k), (2, .int q)] := hl
  have hM : MR D cA A M ad σ s.heap := hI
  have h7 : ∀ w ∈ wsX70, w ∈ wsX7_differ := fun _ h => List.mem_cons_of_mem _ (List.mem_append_right _ h)
  have hS : va_S A s.heap s.heap [] := va_S.rf
  refine lv_iconst (v := 0) hx hb dX7_differ_0 (by decide) ?_
  refine lv_istore_n (lv' := [(3, .int 0), (0, .ref M), (1, .int k), (2, .int q)]) hx hb dX7_differ_1 rfl hl (by decide) rfl (fun ls hl => ?_)
  refine lv_aload_n hx hb dX7_differ_2 rfl (lv_at hl 1 rfl) ?_
  refine lv_aload_n hx hb dX7_differ_3 rfl (lv_at hl 1 rfl) ?_
  refine lv_iload_n hx hb dX7_differ_4 rfl (lv_at hl 2 rfl) ?_
  refine xr_call (va_runV (As := [.int k]) (rest := [.ref M]) ⟨hx, hb, hml, hown, hts⟩ (c_X7_isClient l D cA A M ad σ k nC hC (by omega)) (cwV 1 hts gX7_differ_X7_isClient rfl rfl rfl (by decide +kernel) ⟨Nat.le_of_ble_eq_true rfl, Nat.le_of_ble_eq_true rfl⟩) (xPV hK hM.1 rfl hM) rfl rfl hl.1 rfl (lv_room (Nat.le_of_ble_eq_true rfl)) dX7_differ_5 ⟨Nat.le_of_ble_eq_true rfl, Nat.le_of_ble_eq_true rfl⟩) ?_
  refine xb_eq (tgt := 23) hx hb dX7_differ_8 (by decide) (fun c_1 => ?_) (fun c_1 => ?_)
  · refine lv_iconst (v := 1) hx hb dX7_differ_23 (by decide) ?_
    refine xw_calls (va_runV (As := [.int 1]) (rest := []) ⟨hx, hb, hml, hown, hts⟩ (c_X7_goes l D cA A M ad σ 1) (cwV 1 hts gX7_differ_X7_goes rfl rfl rfl (by decide +kernel) ⟨Nat.le_of_ble_eq_true rfl, Nat.le_of_ble_eq_true rfl⟩) (xPV hK hM.1 rfl hM) rfl rfl hl.1 rfl (lv_room (Nat.le_of_ble_eq_true rfl)) dX7_differ_24 ⟨Nat.le_of_ble_eq_true rfl, Nat.le_of_ble_eq_true rfl⟩) hS (fun _ _ h => h) (fun _ h => h) (fun H locs hM _ _ hS => ?_)
    refine lv_istore (lv' := [(4, .int (bI (gz 1))), (3, .int 0), (0, .ref M), (1, .int k), (2, .int q)]) hx hb dX7_differ_27 hl (by decide) rfl (fun ls hl => ?_)
    refine lv_iconst (v := 0) hx hb dX7_differ_29 (by decide) ?_
    refine lv_istore (lv' := [(5, .int 0), (4, .int (bI (gz 1))), (3, .int 0), (0, .ref M), (1, .int k), (2, .int q)]) hx hb dX7_differ_30 hl (by decide) rfl (fun ls hl => ?_)
    refine lv_iload hx hb dX7_differ_32 (lv_at hl 0 rfl) ?_
    refine lv_bipush (v := 16) hx hb dX7_differ_34 (by decide) ?_
    refine lv_icmp_ge (tgt := 137) hx hb dX7_differ_36 (by decide) (fun c_2 => absurd c_2 (by decide)) (fun _ => ?_)
    refine lv_iload hx hb dX7_differ_39 (lv_at hl 1 rfl) ?_
    refine xb_eq (tgt := 137) hx hb dX7_differ_41 (by decide) (fun _ => ?_) (fun c_3 => absurd c_3 (by decide))
    refine lv_iload_n hx hb dX7_differ_137 rfl (lv_at hl 2 rfl) ?_
    exact xw_iret hx hb hr hlocks hS (mJ_no (w := 1) hM (by simp [kF2, c_1]) (by decide) rfl (PE.rf.sg 25 _ (by decide))) (Nat.le_refl _) (Nat.le_refl _) dX7_differ_138
  · obtain ⟨j_k, hj_k, ej_k⟩ := okN_of (by omega) c_1
    subst ej_k
    have ij_k : ix (nI j_k) = j_k := ix_nI (by omega)
    refine lv_aload_n hx hb dX7_differ_11 rfl (lv_at hl 1 rfl) ?_
    refine lv_iload_n hx hb dX7_differ_12 rfl (lv_at hl 3 rfl) ?_
    refine xr_call (va_runV (As := [.int q]) (rest := [.ref M]) ⟨hx, hb, hml, hown, hts⟩ (c_X7_isClient l D cA A M ad σ q nC hC (by omega)) (cwV 1 hts gX7_differ_X7_isClient rfl rfl rfl (by decide +kernel) ⟨Nat.le_of_ble_eq_true rfl, Nat.le_of_ble_eq_true rfl⟩) (xPV hK hM.1 rfl hM) rfl rfl hl.1 rfl (lv_room (Nat.le_of_ble_eq_true rfl)) dX7_differ_13 ⟨Nat.le_of_ble_eq_true rfl, Nat.le_of_ble_eq_true rfl⟩) ?_
    refine xb_eq (tgt := 23) hx hb dX7_differ_16 (by decide) (fun c_4 => ?_) (fun c_4 => ?_)
    · refine lv_iconst (v := 1) hx hb dX7_differ_23 (by decide) ?_
      refine xw_calls (va_runV (As := [.int 1]) (rest := []) ⟨hx, hb, hml, hown, hts⟩ (c_X7_goes l D cA A M ad σ 1) (cwV 1 hts gX7_differ_X7_goes rfl rfl rfl (by decide +kernel) ⟨Nat.le_of_ble_eq_true rfl, Nat.le_of_ble_eq_true rfl⟩) (xPV hK hM.1 rfl hM) rfl rfl hl.1 rfl (lv_room (Nat.le_of_ble_eq_true rfl)) dX7_differ_24 ⟨Nat.le_of_ble_eq_true rfl, Nat.le_of_ble_eq_true rfl⟩) hS (fun _ _ h => h) (fun _ h => h) (fun H locs hM _ _ hS => ?_)
      refine lv_istore (lv' := [(4, .int (bI (gz 1))), (3, .int 0), (0, .ref M), (1, .int (nI j_k)), (2, .int q)]) hx hb dX7_differ_27 hl (by decide) rfl (fun ls hl => ?_)
      refine lv_iconst (v := 0) hx hb dX7_differ_29 (by decide) ?_
      refine lv_istore (lv' := [(5, .int 0), (4, .int (bI (gz 1))), (3, .int 0), (0, .ref M), (1, .int (nI j_k)), (2, .int q)]) hx hb dX7_differ_30 hl (by decide) rfl (fun ls hl => ?_)
      refine lv_iload hx hb dX7_differ_32 (lv_at hl 0 rfl) ?_
      refine lv_bipush (v := 16) hx hb dX7_differ_34 (by decide) ?_
      refine lv_icmp_ge (tgt := 137) hx hb dX7_differ_36 (by decide) (fun c_5 => absurd c_5 (by decide)) (fun _ => ?_)
      refine lv_iload hx hb dX7_differ_39 (lv_at hl 1 rfl) ?_
      refine xb_eq (tgt := 137) hx hb dX7_differ_41 (by decide) (fun _ => ?_) (fun c_6 => absurd c_6 (by decide))
      refine lv_iload_n hx hb dX7_differ_137 rfl (lv_at hl 2 rfl) ?_
      exact xw_iret hx hb hr hlocks hS (mJ_no (w := 1) hM (by simp [kF2, c_1, c_4]) (by decide) rfl (PE.rf.sg 25 _ (by decide))) (Nat.le_refl _) (Nat.le_refl _) dX7_differ_138
    · obtain ⟨j_q, hj_q, ej_q⟩ := okN_of (by omega) c_4
      subst ej_q
      have ij_q : ix (nI j_q) = j_q := ix_nI (by omega)
      refine lv_iconst (v := 0) hx hb dX7_differ_19 (by decide) ?_
      refine lv_goto (tgt := 24) hx hb dX7_differ_20 (by decide) ?_
      refine xw_calls (va_runV (As := [.int 0]) (rest := []) ⟨hx, hb, hml, hown, hts⟩ (c_X7_goes l D cA A M ad σ 0) (cwV 1 hts gX7_differ_X7_goes rfl rfl rfl (by decide +kernel) ⟨Nat.le_of_ble_eq_true rfl, Nat.le_of_ble_eq_true rfl⟩) (xPV hK hM.1 rfl hM) rfl rfl hl.1 rfl (lv_room (Nat.le_of_ble_eq_true rfl)) dX7_differ_24 ⟨Nat.le_of_ble_eq_true rfl, Nat.le_of_ble_eq_true rfl⟩) hS (fun _ _ h => h) (fun _ h => h) (fun H locs hM _ _ hS => ?_)
      refine lv_istore (lv' := [(4, .int (bI (gz 0))), (3, .int 0), (0, .ref M), (1, .int (nI j_k)), (2, .int (nI j_q))]) hx hb dX7_differ_27 hl (by decide) rfl (fun ls hl => ?_)
      refine lv_iconst (v := 0) hx hb dX7_differ_29 (by decide) ?_
      refine lv_istore (lv' := [(5, .int 0), (4, .int (bI (gz 0))), (3, .int 0), (0, .ref M), (1, .int (nI j_k)), (2, .int (nI j_q))]) hx hb dX7_differ_30 hl (by decide) rfl (fun ls hl => ?_)
      refine w_loop (fun (x9 : Nat × MS) H locs ls => let i := x9.1; let τ := x9.2; i ≤ 16 ∧ PE τ σ ∧ τ.1 25 = 0 ∧ MR D cA A M ad τ H ∧ va_S A s.heap H locs ∧ lv_has ls 12 [(0, .ref M), (1, .int (nI j_k)), (2, .int (nI j_q)), (3, .int (fnF (fun b => difE (akE σ j_k none nL b) (akE σ j_q none nL b) b) i)), (4, .int (bI (gz 0))), (5, .int (nI i))]) (fun (x9 : Nat × MS) => let i := x9.1; let τ := x9.2; 16 - i) ?_ (0, (sg σ 25 0)) ⟨Nat.zero_le _, (PE.rf.sg 25 _ (by decide)), rfl, hM, hS, lv_sub hl [3, 4, 5, 2, 1, 0] rfl⟩
      intro x9 H locs ls h9 ih
      obtain ⟨i, τ⟩ := x9
      obtain ⟨hi, hp, h25, hM, hS, hl⟩ := h9
      refine lv_iload hx hb dX7_differ_32 (lv_at hl 5 rfl) ?_
      refine lv_bipush (v := 16) hx hb dX7_differ_34 (by decide) ?_
      refine lv_icmp_ge (tgt := 137) hx hb dX7_differ_36 (by decide) (fun c_7 => ?_) (fun c_7 => ?_)
      · have n_7 : 16 ≤ i := (nI_leI (a := 16) (b := i) (by omega) (by omega)).mp c_7
        refine lv_iload_n hx hb dX7_differ_137 rfl (lv_at hl 3 rfl) ?_
        exact xw_iret hx hb hr hlocks hS (mJ_ok hM (by simp [kF2, c_1, c_4, c_7]) h25 ⟨by rw [ij_k, ij_q, show 16 = i by omega], hp⟩) (Nat.le_refl _) (Nat.le_refl _) dX7_differ_138
      · have n_7 : i < 16 := Nat.not_le.mp (fun q => c_7 ((nI_leI (a := 16) (b := i) (by omega) (by omega)).mpr q))
        refine lv_iload hx hb dX7_differ_39 (lv_at hl 4 rfl) ?_
        refine xb_eq (tgt := 137) hx hb dX7_differ_41 (by decide) (fun c_8 => absurd c_8 (by decide)) (fun _ => ?_)
        refine lv_aload_n hx hb dX7_differ_44 rfl (lv_at hl 0 rfl) ?_
        refine lv_iload_n hx hb dX7_differ_45 rfl (lv_at hl 1 rfl) ?_
        refine lv_iload hx hb dX7_differ_46 (lv_at hl 5 rfl) ?_
        refine lv_iconst (v := (-1)) hx hb dX7_differ_48 (by decide) ?_
        refine xw_calls (va_runV (As := [.int (nI j_k), .int (nI i), .int (-1)]) (rest := []) ⟨hx, hb, hml, hown, hts⟩ (c_X7_asks l D cA A M ad τ j_k i none σ hp nL hL hL2 (by omega) (by omega) (fun _ h => by cases h) (hdec j_k none (by omega) (fun _ h => by cases h))) (cwV 3 hts gX7_differ_X7_asks rfl rfl rfl (by decide +kernel) ⟨Nat.le_of_ble_eq_true rfl, Nat.le_of_ble_eq_true rfl⟩) (xPV hK hM.1 rfl hM) rfl rfl hl.1 rfl (lv_room (Nat.le_of_ble_eq_true rfl)) dX7_differ_49 ⟨Nat.le_of_ble_eq_true rfl, Nat.le_of_ble_eq_true rfl⟩) hS (fun _ _ h => h) (fun _ h => h) (fun H locs hM _ _ hS => ?_)
        obtain ⟨s8, hM, p_s8, t_s8, u_s8, k_s8, q_s8⟩ := hM
        refine lv_lstore (lv' := [(6, .long (akV (akE σ j_k none nL i) i)), (0, .ref M), (1, .int (nI j_k)), (2, .int (nI j_q)), (3, .int (fnF (fun b => difE (akE σ j_k none nL b) (akE σ j_q none nL b) b) i)), (4, .int (bI (gz 0))), (5, .int (nI i))]) hx hb dX7_differ_52 hl (by decide) rfl (fun ls hl => ?_)
        refine lv_aload_n hx hb dX7_differ_54 rfl (lv_at hl 1 rfl) ?_
        refine m_get (v := .int (akT (akE σ j_k none nL i))) hx hb hts h7 hown hK hM 23 (by decide) (hts (.fieldLink RX7 159 "ConfigBeaconModel" "status" "I") (by decide +kernel)) (by show some (Value.int (s8.1 23)) = _; rw [k_s8]) dX7_differ_55 ?_
        refine lv_if_ne (tgt := 65) hx hb dX7_differ_58 (by decide) (fun c_9 => ?_) (fun c_9 => ?_)
        · refine lv_iconst (v := 0) hx hb dX7_differ_65 (by decide) ?_
          refine lv_istore (lv' := [(8, .int 0), (6, .long (akV (akE σ j_k none nL i) i)), (0, .ref M), (1, .int (nI j_k)), (2, .int (nI j_q)), (3, .int (fnF (fun b => difE (akE σ j_k none nL b) (akE σ j_q none nL b) b) i)), (4, .int (bI (gz 0))), (5, .int (nI i))]) hx hb dX7_differ_66 hl (by decide) rfl (fun ls hl => ?_)
          refine lv_aload_n hx hb dX7_differ_68 rfl (lv_at hl 2 rfl) ?_
          refine lv_iload_n hx hb dX7_differ_69 rfl (lv_at hl 4 rfl) ?_
          refine lv_iload hx hb dX7_differ_70 (lv_at hl 7 rfl) ?_
          refine lv_iconst (v := (-1)) hx hb dX7_differ_72 (by decide) ?_
          refine xw_calls (va_runV (As := [.int (nI j_q), .int (nI i), .int (-1)]) (rest := []) ⟨hx, hb, hml, hown, hts⟩ (c_X7_asks l D cA A M ad s8 j_q i none σ p_s8 nL hL hL2 (by omega) (by omega) (fun _ h => by cases h) (hdec j_q none (by omega) (fun _ h => by cases h))) (cwV 3 hts gX7_differ_X7_asks rfl rfl rfl (by decide +kernel) ⟨Nat.le_of_ble_eq_true rfl, Nat.le_of_ble_eq_true rfl⟩) (xPV hK hM.1 rfl hM) rfl rfl hl.1 rfl (lv_room (Nat.le_of_ble_eq_true rfl)) dX7_differ_73 ⟨Nat.le_of_ble_eq_true rfl, Nat.le_of_ble_eq_true rfl⟩) hS (fun _ _ h => h) (fun _ h => h) (fun H locs hM _ _ hS => ?_)
          obtain ⟨s9, hM, p_s9, t_s9, u_s9, k_s9, q_s9⟩ := hM
          refine lv_lstore (lv' := [(9, .long (akV (akE σ j_q none nL i) i)), (8, .int 0), (6, .long (akV (akE σ j_k none nL i) i)), (0, .ref M), (1, .int (nI j_k)), (2, .int (nI j_q)), (3, .int (fnF (fun b => difE (akE σ j_k none nL b) (akE σ j_q none nL b) b) i)), (4, .int (bI (gz 0))), (5, .int (nI i))]) hx hb dX7_differ_76 hl (by decide) rfl (fun ls hl => ?_)
          refine lv_iload hx hb dX7_differ_78 (lv_at hl 1 rfl) ?_
          refine lv_aload_n hx hb dX7_differ_80 rfl (lv_at hl 3 rfl) ?_
          refine m_get (v := .int (akT (akE σ j_q none nL i))) hx hb hts h7 hown hK hM 23 (by decide) (hts (.fieldLink RX7 159 "ConfigBeaconModel" "status" "I") (by decide +kernel)) (by show some (Value.int (s9.1 23)) = _; rw [k_s9]) dX7_differ_81 ?_
          refine lv_if_ne (tgt := 91) hx hb dX7_differ_84 (by decide) (fun c_10 => ?_) (fun c_10 => ?_)
          · refine lv_iconst (v := 0) hx hb dX7_differ_91 (by decide) ?_
            refine lv_icmp_ne (tgt := 108) hx hb dX7_differ_92 (by decide) (fun c_11 => absurd c_11 (by decide)) (fun _ => ?_)
            refine lv_iload hx hb dX7_differ_95 (lv_at hl 1 rfl) ?_
            refine lv_if_eq (tgt := 112) hx hb dX7_differ_97 (by decide) (fun _ => ?_) (fun c_12 => absurd c_12 (by decide))
            refine lv_iconst (v := 0) hx hb dX7_differ_112 (by decide) ?_
            refine lv_istore (lv' := [(11, .int 0), (9, .long (akV (akE σ j_q none nL i) i)), (8, .int 0), (6, .long (akV (akE σ j_k none nL i) i)), (0, .ref M), (1, .int (nI j_k)), (2, .int (nI j_q)), (3, .int (fnF (fun b => difE (akE σ j_k none nL b) (akE σ j_q none nL b) b) i)), (4, .int (bI (gz 0))), (5, .int (nI i))]) hx hb dX7_differ_113 hl (by decide) rfl (fun ls hl => ?_)
            refine lv_iload_n hx hb dX7_differ_115 rfl (lv_at hl 7 rfl) ?_
            refine lv_iload hx hb dX7_differ_116 (lv_at hl 0 rfl) ?_
            refine lv_if_eq (tgt := 128) hx hb dX7_differ_118 (by decide) (fun _ => ?_) (fun c_13 => absurd c_13 (by decide))
            refine lv_iconst (v := 0) hx hb dX7_differ_128 (by decide) ?_
            refine lv_ior hx hb dX7_differ_129 ?_
            refine xe_top (show ((fnF (fun b => difE (akE σ j_k none nL b) (akE σ j_q none nL b) b) i) ||| 0) = fnF (fun b => difE (akE σ j_k none nL b) (akE σ j_q none nL b) b) (i + 1) from (fnF_f (p := (fun b => difE (akE σ j_k none nL b) (akE σ j_q none nL b) b)) (n := i) (show difE (akE σ j_k none nL i) (akE σ j_q none nL i) i = false from by simp [difE, c_9, c_10])).symm) ?_
            refine lv_istore_n (lv' := [(3, .int (fnF (fun b => difE (akE σ j_k none nL b) (akE σ j_q none nL b) b) (i + 1))), (11, .int 0), (9, .long (akV (akE σ j_q none nL i) i)), (8, .int 0), (6, .long (akV (akE σ j_k none nL i) i)), (0, .ref M), (1, .int (nI j_k)), (2, .int (nI j_q)), (4, .int (bI (gz 0))), (5, .int (nI i))]) hx hb dX7_differ_130 rfl hl (by decide) rfl (fun ls hl => ?_)
            refine lv_iinc (v := (nI (i + 1))) (lv' := [(5, .int (nI (i + 1))), (3, .int (fnF (fun b => difE (akE σ j_k none nL b) (akE σ j_q none nL b) b) (i + 1))), (11, .int 0), (9, .long (akV (akE σ j_q none nL i) i)), (8, .int 0), (6, .long (akV (akE σ j_k none nL i) i)), (0, .ref M), (1, .int (nI j_k)), (2, .int (nI j_q)), (4, .int (bI (gz 0)))]) hx hb dX7_differ_131 hl (k := 9) rfl (ni_inc i) (by decide) rfl (fun ls hl => ?_)
            refine lv_goto (tgt := 32) hx hb dX7_differ_134 (by decide) ?_
            exact ih ((i + 1), s9) _ _ _ ⟨(by omega), p_s9, (t_s9.trans (t_s8.trans h25)), hM, hS, lv_sub hl [6, 7, 8, 1, 9, 0] rfl⟩ (by show 16 - (i + 1) < 16 - i; omega)
          · refine lv_iconst (v := 1) hx hb dX7_differ_87 (by decide) ?_
            refine lv_goto (tgt := 92) hx hb dX7_differ_88 (by decide) ?_
            refine lv_icmp_ne (tgt := 108) hx hb dX7_differ_92 (by decide) (fun _ => ?_) (fun c_14 => absurd c_14 (by decide))
            refine lv_iconst (v := 1) hx hb dX7_differ_108 (by decide) ?_
            refine lv_goto (tgt := 113) hx hb dX7_differ_109 (by decide) ?_
            refine lv_istore (lv' := [(11, .int 1), (9, .long (akV (akE σ j_q none nL i) i)), (8, .int 0), (6, .long (akV (akE σ j_k none nL i) i)), (0, .ref M), (1, .int (nI j_k)), (2, .int (nI j_q)), (3, .int (fnF (fun b => difE (akE σ j_k none nL b) (akE σ j_q none nL b) b) i)), (4, .int (bI (gz 0))), (5, .int (nI i))]) hx hb dX7_differ_113 hl (by decide) rfl (fun ls hl => ?_)
            refine lv_iload_n hx hb dX7_differ_115 rfl (lv_at hl 7 rfl) ?_
            refine lv_iload hx hb dX7_differ_116 (lv_at hl 0 rfl) ?_
            refine lv_if_eq (tgt := 128) hx hb dX7_differ_118 (by decide) (fun c_15 => absurd c_15 (by decide)) (fun _ => ?_)
            refine lv_iconst (v := 1) hx hb dX7_differ_121 (by decide) ?_
            refine lv_iload hx hb dX7_differ_122 (lv_at hl 9 rfl) ?_
            refine lv_ishl hx hb dX7_differ_124 ?_
            refine lv_goto (tgt := 129) hx hb dX7_differ_125 (by decide) ?_
            refine lv_ior hx hb dX7_differ_129 ?_
            refine xe_top (show ((fnF (fun b => difE (akE σ j_k none nL b) (akE σ j_q none nL b) b) i) ||| ((1 : Int32) <<< ((nI i) &&& 31))) = fnF (fun b => difE (akE σ j_k none nL b) (akE σ j_q none nL b) b) (i + 1) from (fnF_t (p := (fun b => difE (akE σ j_k none nL b) (akE σ j_q none nL b) b)) (n := i) (show difE (akE σ j_k none nL i) (akE σ j_q none nL i) i = true from by simp [difE, c_9, c_10])).symm) ?_
            refine lv_istore_n (lv' := [(3, .int (fnF (fun b => difE (akE σ j_k none nL b) (akE σ j_q none nL b) b) (i + 1))), (11, .int 1), (9, .long (akV (akE σ j_q none nL i) i)), (8, .int 0), (6, .long (akV (akE σ j_k none nL i) i)), (0, .ref M), (1, .int (nI j_k)), (2, .int (nI j_q)), (4, .int (bI (gz 0))), (5, .int (nI i))]) hx hb dX7_differ_130 rfl hl (by decide) rfl (fun ls hl => ?_)
            refine lv_iinc (v := (nI (i + 1))) (lv' := [(5, .int (nI (i + 1))), (3, .int (fnF (fun b => difE (akE σ j_k none nL b) (akE σ j_q none nL b) b) (i + 1))), (11, .int 1), (9, .long (akV (akE σ j_q none nL i) i)), (8, .int 0), (6, .long (akV (akE σ j_k none nL i) i)), (0, .ref M), (1, .int (nI j_k)), (2, .int (nI j_q)), (4, .int (bI (gz 0)))]) hx hb dX7_differ_131 hl (k := 9) rfl (ni_inc i) (by decide) rfl (fun ls hl => ?_)
            refine lv_goto (tgt := 32) hx hb dX7_differ_134 (by decide) ?_
            exact ih ((i + 1), s9) _ _ _ ⟨(by omega), p_s9, (t_s9.trans (t_s8.trans h25)), hM, hS, lv_sub hl [6, 7, 8, 1, 9, 0] rfl⟩ (by show 16 - (i + 1) < 16 - i; omega)
        · refine lv_iconst (v := 1) hx hb dX7_differ_61 (by decide) ?_
          refine lv_goto (tgt := 66) hx hb dX7_differ_62 (by decide) ?_
          refine lv_istore (lv' := [(8, .int 1), (6, .long (akV (akE σ j_k none nL i) i)), (0, .ref M), (1, .int (nI j_k)), (2, .int (nI j_q)), (3, .int (fnF (fun b => difE (akE σ j_k none nL b) (akE σ j_q none nL b) b) i)), (4, .int (bI (gz 0))), (5, .int (nI i))]) hx hb dX7_differ_66 hl (by decide) rfl (fun ls hl => ?_)
          refine lv_aload_n hx hb dX7_differ_68 rfl (lv_at hl 2 rfl) ?_
          refine lv_iload_n hx hb dX7_differ_69 rfl (lv_at hl 4 rfl) ?_
          refine lv_iload hx hb dX7_differ_70 (lv_at hl 7 rfl) ?_
          refine lv_iconst (v := (-1)) hx hb dX7_differ_72 (by decide) ?_
          refine xw_calls (va_runV (As := [.int (nI j_q), .int (nI i), .int (-1)]) (rest := []) ⟨hx, hb, hml, hown, hts⟩ (c_X7_asks l D cA A M ad s8 j_q i none σ p_s8 nL hL hL2 (by omega) (by omega) (fun _ h => by cases h) (hdec j_q none (by omega) (fun _ h => by cases h))) (cwV 3 hts gX7_differ_X7_asks rfl rfl rfl (by decide +kernel) ⟨Nat.le_of_ble_eq_true rfl, Nat.le_of_ble_eq_true rfl⟩) (xPV hK hM.1 rfl hM) rfl rfl hl.1 rfl (lv_room (Nat.le_of_ble_eq_true rfl)) dX7_differ_73 ⟨Nat.le_of_ble_eq_true rfl, Nat.le_of_ble_eq_true rfl⟩) hS (fun _ _ h => h) (fun _ h => h) (fun H locs hM _ _ hS => ?_)
          obtain ⟨s10, hM, p_s10, t_s10, u_s10, k_s10, q_s10⟩ := hM
          refine lv_lstore (lv' := [(9, .long (akV (akE σ j_q none nL i) i)), (8, .int 1), (6, .long (akV (akE σ j_k none nL i) i)), (0, .ref M), (1, .int (nI j_k)), (2, .int (nI j_q)), (3, .int (fnF (fun b => difE (akE σ j_k none nL b) (akE σ j_q none nL b) b) i)), (4, .int (bI (gz 0))), (5, .int (nI i))]) hx hb dX7_differ_76 hl (by decide) rfl (fun ls hl => ?_)
          refine lv_iload hx hb dX7_differ_78 (lv_at hl 1 rfl) ?_
          refine lv_aload_n hx hb dX7_differ_80 rfl (lv_at hl 3 rfl) ?_
          refine m_get (v := .int (akT (akE σ j_q none nL i))) hx hb hts h7 hown hK hM 23 (by decide) (hts (.fieldLink RX7 159 "ConfigBeaconModel" "status" "I") (by decide +kernel)) (by show some (Value.int (s10.1 23)) = _; rw [k_s10]) dX7_differ_81 ?_
          refine lv_if_ne (tgt := 91) hx hb dX7_differ_84 (by decide) (fun c_16 => ?_) (fun c_16 => ?_)
          · refine lv_iconst (v := 0) hx hb dX7_differ_91 (by decide) ?_
            refine lv_icmp_ne (tgt := 108) hx hb dX7_differ_92 (by decide) (fun _ => ?_) (fun c_17 => absurd c_17 (by decide))
            refine lv_iconst (v := 1) hx hb dX7_differ_108 (by decide) ?_
            refine lv_goto (tgt := 113) hx hb dX7_differ_109 (by decide) ?_
            refine lv_istore (lv' := [(11, .int 1), (9, .long (akV (akE σ j_q none nL i) i)), (8, .int 1), (6, .long (akV (akE σ j_k none nL i) i)), (0, .ref M), (1, .int (nI j_k)), (2, .int (nI j_q)), (3, .int (fnF (fun b => difE (akE σ j_k none nL b) (akE σ j_q none nL b) b) i)), (4, .int (bI (gz 0))), (5, .int (nI i))]) hx hb dX7_differ_113 hl (by decide) rfl (fun ls hl => ?_)
            refine lv_iload_n hx hb dX7_differ_115 rfl (lv_at hl 7 rfl) ?_
            refine lv_iload hx hb dX7_differ_116 (lv_at hl 0 rfl) ?_
            refine lv_if_eq (tgt := 128) hx hb dX7_differ_118 (by decide) (fun c_18 => absurd c_18 (by decide)) (fun _ => ?_)
            refine lv_iconst (v := 1) hx hb dX7_differ_121 (by decide) ?_
            refine lv_iload hx hb dX7_differ_122 (lv_at hl 9 rfl) ?_
            refine lv_ishl hx hb dX7_differ_124 ?_
            refine lv_goto (tgt := 129) hx hb dX7_differ_125 (by decide) ?_
            refine lv_ior hx hb dX7_differ_129 ?_
            refine xe_top (show ((fnF (fun b => difE (akE σ j_k none nL b) (akE σ j_q none nL b) b) i) ||| ((1 : Int32) <<< ((nI i) &&& 31))) = fnF (fun b => difE (akE σ j_k none nL b) (akE σ j_q none nL b) b) (i + 1) from (fnF_t (p := (fun b => difE (akE σ j_k none nL b) (akE σ j_q none nL b) b)) (n := i) (show difE (akE σ j_k none nL i) (akE σ j_q none nL i) i = true from by simp [difE, c_9, c_16])).symm) ?_
            refine lv_istore_n (lv' := [(3, .int (fnF (fun b => difE (akE σ j_k none nL b) (akE σ j_q none nL b) b) (i + 1))), (11, .int 1), (9, .long (akV (akE σ j_q none nL i) i)), (8, .int 1), (6, .long (akV (akE σ j_k none nL i) i)), (0, .ref M), (1, .int (nI j_k)), (2, .int (nI j_q)), (4, .int (bI (gz 0))), (5, .int (nI i))]) hx hb dX7_differ_130 rfl hl (by decide) rfl (fun ls hl => ?_)
            refine lv_iinc (v := (nI (i + 1))) (lv' := [(5, .int (nI (i + 1))), (3, .int (fnF (fun b => difE (akE σ j_k none nL b) (akE σ j_q none nL b) b) (i + 1))), (11, .int 1), (9, .long (akV (akE σ j_q none nL i) i)), (8, .int 1), (6, .long (akV (akE σ j_k none nL i) i)), (0, .ref M), (1, .int (nI j_k)), (2, .int (nI j_q)), (4, .int (bI (gz 0)))]) hx hb dX7_differ_131 hl (k := 9) rfl (ni_inc i) (by decide) rfl (fun ls hl => ?_)
            refine lv_goto (tgt := 32) hx hb dX7_differ_134 (by decide) ?_
            exact ih ((i + 1), s10) _ _ _ ⟨(by omega), p_s10, (t_s10.trans (t_s8.trans h25)), hM, hS, lv_sub hl [6, 7, 8, 1, 9, 0] rfl⟩ (by show 16 - (i + 1) < 16 - i; omega)
          · refine lv_iconst (v := 1) hx hb dX7_differ_87 (by decide) ?_
            refine lv_goto (tgt := 92) hx hb dX7_differ_88 (by decide) ?_
            refine lv_icmp_ne (tgt := 108) hx hb dX7_differ_92 (by decide) (fun c_19 => absurd c_19 (by decide)) (fun _ => ?_)
            refine lv_iload hx hb dX7_differ_95 (lv_at hl 1 rfl) ?_
            refine lv_if_eq (tgt := 112) hx hb dX7_differ_97 (by decide) (fun c_20 => absurd c_20 (by decide)) (fun _ => ?_)
            refine lv_lload hx hb dX7_differ_100 (lv_at hl 2 rfl) ?_
            refine lv_lload hx hb dX7_differ_102 (lv_at hl 0 rfl) ?_
            refine xe_lcmp hx hb dX7_differ_104 (fun lc_1 hlc_1 => ?_)
            refine lv_if_eq (tgt := 112) hx hb dX7_differ_105 (by decide) (fun c_21 => ?_) (fun c_21 => ?_)
            · refine lv_iconst (v := 0) hx hb dX7_differ_112 (by decide) ?_
              refine lv_istore (lv' := [(11, .int 0), (9, .long (akV (akE σ j_q none nL i) i)), (8, .int 1), (6, .long (akV (akE σ j_k none nL i) i)), (0, .ref M), (1, .int (nI j_k)), (2, .int (nI j_q)), (3, .int (fnF (fun b => difE (akE σ j_k none nL b) (akE σ j_q none nL b) b) i)), (4, .int (bI (gz 0))), (5, .int (nI i))]) hx hb dX7_differ_113 hl (by decide) rfl (fun ls hl => ?_)
              refine lv_iload_n hx hb dX7_differ_115 rfl (lv_at hl 7 rfl) ?_
              refine lv_iload hx hb dX7_differ_116 (lv_at hl 0 rfl) ?_
              refine lv_if_eq (tgt := 128) hx hb dX7_differ_118 (by decide) (fun _ => ?_) (fun c_22 => absurd c_22 (by decide))
              refine lv_iconst (v := 0) hx hb dX7_differ_128 (by decide) ?_
              refine lv_ior hx hb dX7_differ_129 ?_
              refine xe_top (show ((fnF (fun b => difE (akE σ j_k none nL b) (akE σ j_q none nL b) b) i) ||| 0) = fnF (fun b => difE (akE σ j_k none nL b) (akE σ j_q none nL b) b) (i + 1) from (fnF_f (p := (fun b => difE (akE σ j_k none nL b) (akE σ j_q none nL b) b)) (n := i) (show difE (akE σ j_k none nL i) (akE σ j_q none nL i) i = false from by simp [difE, c_9, c_16, (hlc_1.mp c_21)])).symm) ?_
              refine lv_istore_n (lv' := [(3, .int (fnF (fun b => difE (akE σ j_k none nL b) (akE σ j_q none nL b) b) (i + 1))), (11, .int 0), (9, .long (akV (akE σ j_q none nL i) i)), (8, .int 1), (6, .long (akV (akE σ j_k none nL i) i)), (0, .ref M), (1, .int (nI j_k)), (2, .int (nI j_q)), (4, .int (bI (gz 0))), (5, .int (nI i))]) hx hb dX7_differ_130 rfl hl (by decide) rfl (fun ls hl => ?_)
              refine lv_iinc (v := (nI (i + 1))) (lv' := [(5, .int (nI (i + 1))), (3, .int (fnF (fun b => difE (akE σ j_k none nL b) (akE σ j_q none nL b) b) (i + 1))), (11, .int 0), (9, .long (akV (akE σ j_q none nL i) i)), (8, .int 1), (6, .long (akV (akE σ j_k none nL i) i)), (0, .ref M), (1, .int (nI j_k)), (2, .int (nI j_q)), (4, .int (bI (gz 0)))]) hx hb dX7_differ_131 hl (k := 9) rfl (ni_inc i) (by decide) rfl (fun ls hl => ?_)
              refine lv_goto (tgt := 32) hx hb dX7_differ_134 (by decide) ?_
              exact ih ((i + 1), s10) _ _ _ ⟨(by omega), p_s10, (t_s10.trans (t_s8.trans h25)), hM, hS, lv_sub hl [6, 7, 8, 1, 9, 0] rfl⟩ (by show 16 - (i + 1) < 16 - i; omega)
            · refine lv_iconst (v := 1) hx hb dX7_differ_108 (by decide) ?_
              refine lv_goto (tgt := 113) hx hb dX7_differ_109 (by decide) ?_
              refine lv_istore (lv' := [(11, .int 1), (9, .long (akV (akE σ j_q none nL i) i)), (8, .int 1), (6, .long (akV (akE σ j_k none nL i) i)), (0, .ref M), (1, .int (nI j_k)), (2, .int (nI j_q)), (3, .int (fnF (fun b => difE (akE σ j_k none nL b) (akE σ j_q none nL b) b) i)), (4, .int (bI (gz 0))), (5, .int (nI i))]) hx hb dX7_differ_113 hl (by decide) rfl (fun ls hl => ?_)
              refine lv_iload_n hx hb dX7_differ_115 rfl (lv_at hl 7 rfl) ?_
              refine lv_iload hx hb dX7_differ_116 (lv_at hl 0 rfl) ?_
              refine lv_if_eq (tgt := 128) hx hb dX7_differ_118 (by decide) (fun c_23 => absurd c_23 (by decide)) (fun _ => ?_)
              refine lv_iconst (v := 1) hx hb dX7_differ_121 (by decide) ?_
              refine lv_iload hx hb dX7_differ_122 (lv_at hl 9 rfl) ?_
              refine lv_ishl hx hb dX7_differ_124 ?_
              refine lv_goto (tgt := 129) hx hb dX7_differ_125 (by decide) ?_
              refine lv_ior hx hb dX7_differ_129 ?_
              have hne : ¬ (akV (akE σ j_k none nL i) i) = (akV (akE σ j_q none nL i) i) := fun q => c_21 (hlc_1.mpr q)
              refine xe_top (show ((fnF (fun b => difE (akE σ j_k none nL b) (akE σ j_q none nL b) b) i) ||| ((1 : Int32) <<< ((nI i) &&& 31))) = fnF (fun b => difE (akE σ j_k none nL b) (akE σ j_q none nL b) b) (i + 1) from (fnF_t (p := (fun b => difE (akE σ j_k none nL b) (akE σ j_q none nL b) b)) (n := i) (show difE (akE σ j_k none nL i) (akE σ j_q none nL i) i = true from by simp [difE, c_9, c_16, hne])).symm) ?_
              refine lv_istore_n (lv' := [(3, .int (fnF (fun b => difE (akE σ j_k none nL b) (akE σ j_q none nL b) b) (i + 1))), (11, .int 1), (9, .long (akV (akE σ j_q none nL i) i)), (8, .int 1), (6, .long (akV (akE σ j_k none nL i) i)), (0, .ref M), (1, .int (nI j_k)), (2, .int (nI j_q)), (4, .int (bI (gz 0))), (5, .int (nI i))]) hx hb dX7_differ_130 rfl hl (by decide) rfl (fun ls hl => ?_)
              refine lv_iinc (v := (nI (i + 1))) (lv' := [(5, .int (nI (i + 1))), (3, .int (fnF (fun b => difE (akE σ j_k none nL b) (akE σ j_q none nL b) b) (i + 1))), (11, .int 1), (9, .long (akV (akE σ j_q none nL i) i)), (8, .int 1), (6, .long (akV (akE σ j_k none nL i) i)), (0, .ref M), (1, .int (nI j_k)), (2, .int (nI j_q)), (4, .int (bI (gz 0)))]) hx hb dX7_differ_131 hl (k := 9) rfl (ni_inc i) (by decide) rfl (fun ls hl => ?_)
              refine lv_goto (tgt := 32) hx hb dX7_differ_134 (by decide) ?_
              exact ih ((i + 1), s10) _ _ _ ⟨(by omega), p_s10, (t_s10.trans (t_s8.trans h25)), hM, hS, lv_sub hl [6, 7, 8, 1, 9, 0] rfl⟩ (by show 16 - (i + 1) < 16 - i; omega)
