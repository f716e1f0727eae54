set_option maxHeartbeats 4000000 in
set_option maxRecDepth 100000 in
theorem c_X7_set (l : Launch) (D : va_G) (cA : Nat → ClassId) (A : Nat → Prop) (M : Nat) (ad : Nat → Nat) (σ : MS) (p1 : Int32) (p2 : Int32) (v : Int32) (o : Int32) (nL : Nat) (hL : σ.1 6 = nI nL) (hL2 : nL ≤ 8) (nV : Nat) (hV : σ.1 13 = nI nV) (hV2 : nV < 512) : Met l yX7_set wsX7_set (rmK 4 0 0) (xP D cA [.ref M, .int p1, .int p2, .int v, .int o] (MR D cA A M ad σ)) (xW (mJ D cA A M ad σ (wrF σ nL p1 p2 (okB v) o false) (fun r τ => r = some (.int (nI (putV σ nV (cl p1 p2) (enc v (-1) (-1))))) ∧ PE τ (putS σ nV (cl p1 p2) (enc v (-1) (-1))))) A) 0 0 A := by
  refine Met.ofW (cc := cX7_set) (maxL := 5) (ret := (some .int)) (by decide) rfl ?_
  intro p e s m args below meth c s₁ B hml hv
  obtain ⟨rfl, hK, hI⟩ := hv
  have hx := B.exec
  have hb := B.bytes
  have hr := B.returns
  have hts := atoms_spec (ws := wsX7_set) B.pre
  have hown : s.vm.findClass RX7 = some m.cls := findClass_of_methodNamed B.named
  have hlocks := B.notSynchronized
  have hl := lv_entry ([.ref M, .int p1, .int p2, .int v, .int o]) (n := 5) (Nat.le_of_ble_eq_true rfl)
  rw [lg_entry_eq]
  generalize (lg_sl ([.ref M, .int p1, .int p2, .int v, .int o]) ++ List.replicate (5 - (lg_sl ([.ref M, .int p1, .int p2, .int v, .int o])).length) Slot.unset).toArray = ls at hl ⊢
  have hl : lv_has ls 5 [(0, .ref M), (1, .int p1), (2, .int p2), (3, .int v), (4, .int o)] := hl
  have hM : MR D cA A M ad σ s.heap := hI
  have h7 : ∀ w ∈ wsX70, w ∈ wsX7_set := fun _ h => List.mem_cons_of_mem _ (List.mem_append_right _ h)
  have hS : va_S A s.heap s.heap [] := va_S.rf
  refine lv_aload_n hx hb dX7_set_0 rfl (lv_at hl 0 rfl) ?_
  refine lv_aload_n hx hb dX7_set_1 rfl (lv_at hl 0 rfl) ?_
  refine lv_iload_n hx hb dX7_set_2 rfl (lv_at hl 1 rfl) ?_
  refine lv_iload_n hx hb dX7_set_3 rfl (lv_at hl 2 rfl) ?_
  refine lv_iload_n hx hb dX7_set_4 rfl (lv_at hl 3 rfl) ?_
  refine xr_call (va_runS (As := [.int v]) (rest := [.int p2, .int p1, .ref M, .ref M]) ⟨hx, hb, hml, hown, hts⟩ (c_X7_isBase l D cA v) (va_cwS 1 hts gX7_set_X7_isBase rfl rfl rfl (by decide +kernel) ⟨Nat.le_of_ble_eq_true rfl, Nat.le_of_ble_eq_true rfl⟩) (xPS hK trivial) rfl rfl hl.1 rfl (lv_room (Nat.le_of_ble_eq_true rfl)) dX7_set_5 ⟨Nat.le_of_ble_eq_true rfl, Nat.le_of_ble_eq_true rfl⟩) ?_
  refine lv_iload hx hb dX7_set_8 (lv_at hl 4 rfl) ?_
  refine lv_iconst (v := 0) hx hb dX7_set_10 (by decide) ?_
  refine xr_call (va_runV (As := [.int p1, .int p2, .int (bI (okB v)), .int o, .int 0]) (rest := [.ref M]) ⟨hx, hb, hml, hown, hts⟩ (c_X7_wrong l D cA A M ad σ p1 p2 (okB v) o false nL hL hL2) (cwV 5 hts gX7_set_X7_wrong rfl rfl rfl (by decide +kernel) ⟨Nat.le_of_ble_eq_true rfl, Nat.le_of_ble_eq_true rfl⟩) (xPV hK hM.1 rfl hM) rfl rfl hl.1 rfl (lv_room (Nat.le_of_ble_eq_true rfl)) dX7_set_11 ⟨Nat.le_of_ble_eq_true rfl, Nat.le_of_ble_eq_true rfl⟩) ?_
  refine xw_calls (va_runV (As := [.int (wrF σ nL p1 p2 (okB v) o false)]) (rest := []) ⟨hx, hb, hml, hown, hts⟩ (c_X7_goes l D cA A M ad σ (wrF σ nL p1 p2 (okB v) o false)) (cwV 1 hts gX7_set_X7_goes rfl rfl rfl (by decide +kernel) ⟨Nat.le_of_ble_eq_true rfl, Nat.le_of_ble_eq_true rfl⟩) (xPV hK hM.1 rfl hM) rfl rfl hl.1 rfl (lv_room (Nat.le_of_ble_eq_true rfl)) dX7_set_14 ⟨Nat.le_of_ble_eq_true rfl, Nat.le_of_ble_eq_true rfl⟩) hS (fun _ _ h => h) (fun _ h => h) (fun H locs hM _ _ hS => ?_)
  refine xb_eq (tgt := 38) hx hb dX7_set_17 (by decide) (fun c_1 => ?_) (fun c_1 => ?_)
  · have z_c_1 : ¬ (wrF σ nL p1 p2 (okB v) o false) = 0 := fun q => by simp [gz, q] at c_1
    refine lv_iconst (v := 0) hx hb dX7_set_38 (by decide) ?_
    exact xw_iret hx hb hr hlocks hS (mJ_no hM rfl z_c_1 rfl (PE.rf.sg 25 _ (by decide))) (Nat.le_refl _) (Nat.le_refl _) dX7_set_39
  · have z_c_1 := gz_t c_1
    obtain ⟨y1_c_1, y2_c_1, y3_c_1, y4_c_1⟩ := wrF_0 z_c_1
    obtain ⟨j_p1, hj_p1, rfl⟩ := okN_of (by omega) y1_c_1
    obtain ⟨j_p2, hj_p2, rfl⟩ := okS_of y2_c_1
    have ecl : cl (nI j_p1) (nI j_p2) = 16 * j_p1 + j_p2 := cl_nI (by omega) hj_p2
    refine lv_aload_n hx hb dX7_set_20 rfl (lv_at hl 0 rfl) ?_
    refine lv_iload_n hx hb dX7_set_21 rfl (lv_at hl 1 rfl) ?_
    refine lv_iload_n hx hb dX7_set_22 rfl (lv_at hl 2 rfl) ?_
    refine xr_call (va_runS (As := [.int (nI j_p1), .int (nI j_p2)]) (rest := [.ref M]) ⟨hx, hb, hml, hown, hts⟩ (c_X7_cell l D cA j_p1 j_p2) (va_cwS 2 hts gX7_set_X7_cell rfl rfl rfl (by decide +kernel) ⟨Nat.le_of_ble_eq_true rfl, Nat.le_of_ble_eq_true rfl⟩) (xPS hK trivial) rfl rfl hl.1 rfl (lv_room (Nat.le_of_ble_eq_true rfl)) dX7_set_23 ⟨Nat.le_of_ble_eq_true rfl, Nat.le_of_ble_eq_true rfl⟩) ?_
    refine lv_iload_n hx hb dX7_set_26 rfl (lv_at hl 3 rfl) ?_
    refine lv_iconst (v := (-1)) hx hb dX7_set_27 (by decide) ?_
    refine lv_iconst (v := (-1)) hx hb dX7_set_28 (by decide) ?_
    refine xr_call (va_runS (As := [.int v, .int (-1), .int (-1)]) (rest := [.int (nI (16 * j_p1 + j_p2)), .ref M]) ⟨hx, hb, hml, hown, hts⟩ (c_X7_entry l D cA v (-1) (-1)) (va_cwS 3 hts gX7_set_X7_entry rfl rfl rfl (by decide +kernel) ⟨Nat.le_of_ble_eq_true rfl, Nat.le_of_ble_eq_true rfl⟩) (xPS hK trivial) rfl rfl hl.1 rfl (lv_room (Nat.le_of_ble_eq_true rfl)) dX7_set_29 ⟨Nat.le_of_ble_eq_true rfl, Nat.le_of_ble_eq_true rfl⟩) ?_
    refine xw_calls (va_runV (As := [.int (nI (16 * j_p1 + j_p2)), .int (enc v (-1) (-1))]) (rest := []) ⟨hx, hb, hml, hown, hts⟩ (c_X7_puts l D cA A M ad (sg σ 25 (wrF σ nL (nI j_p1) (nI j_p2) (okB v) o false)) (16 * j_p1 + j_p2) (enc v (-1) (-1)) (by omega) nV hV hV2) (cwV 2 hts gX7_set_X7_puts rfl rfl rfl (by decide +kernel) ⟨Nat.le_of_ble_eq_true rfl, Nat.le_of_ble_eq_true rfl⟩) (xPV hK hM.1 rfl hM) rfl rfl hl.1 rfl (lv_room (Nat.le_of_ble_eq_true rfl)) dX7_set_32 ⟨Nat.le_of_ble_eq_true rfl, Nat.le_of_ble_eq_true rfl⟩) hS (fun _ _ h => h) (fun _ h => h) (fun H locs hM _ _ hS => ?_)
    refine lv_goto (tgt := 39) hx hb dX7_set_35 (by decide) ?_
    exact xw_iret hx hb hr hlocks hS (mJ_ok hM z_c_1 z_c_1 (by rw [ecl]; exact ⟨rfl, (PE_put (PE.rf.sg 25 0 (by decide)) nV (16 * j_p1 + j_p2) _)⟩)) (Nat.le_refl _) (Nat.le_refl _) dX7_set_39
set_option maxHeartbeats 4000000 in
set_option maxRecDepth 100000 in
theorem c_X7_template (l : Launch) (D : va_G) (cA : Nat → ClassId) (A : Nat → Prop) (M : Nat) (ad : Nat → Nat) (σ : MS) (p1 : Int32) (p2 : Int32) (b : Int32) (f : Int32) (s2 : Int32) (o : Int32) (nL : Nat) (hL : σ.1 6 = nI nL) (hL2 : nL ≤ 8) (nV : Nat) (hV : σ.1 13 = nI nV) (hV2 : nV < 512) : Met l yX7_template wsX7_template (rmK 4 0 0) (xP D cA [.ref M, .int p1, .int p2, .int b, .int f, .int s2, .int o] (MR D cA A M ad σ)) (xW (mJ D cA A M ad σ (wrF σ nL p1 p2 (okB b && okT f s2) o false) (fun r τ => r = some (.int (nI (putV σ nV (cl p1 p2) (enc b f s2)))) ∧ PE τ (putS σ nV (cl p1 p2) (enc b f s2)))) A) 0 0 A := by
  refine Met.ofW (cc := cX7_template) (maxL := 7) (ret := (some .int)) (by decide) rfl ?_
  intro p e s m args below meth c s₁ B hml hv
  obtain ⟨rfl, hK, hI⟩ := hv
  have hx := B.exec
  have hb := B.bytes
  have hr := B.returns
  have hts := atoms_spec (ws := wsX7_template) B.pre
  have hown : s.vm.findClass RX7 = some m.cls := findClass_of_methodNamed B.named
  have hlocks := B.notSynchronized
  have hl := lv_entry ([.ref M, .int p1, .int p2, .int b, .int f, .int s2, .int o]) (n := 7) (Nat.le_of_ble_eq_true rfl)
  rw [lg_entry_eq]
  generalize (lg_sl ([.ref M, .int p1, .int p2, .int b, .int f, .int s2, .int o]) ++ List.replicate (7 - (lg_sl ([.ref M, .int p1, .int p2, .int b, .int f, .int s2, .int o])).length) Slot.unset).toArray = ls at hl ⊢
  have hl : lv_has ls 7 [(0, .ref M), (1, .int p1), (2, .int p2), (3, .int b), (4, .int f), (5, .int s2), (6, .int o)] := hl
  have hM : MR D cA A M ad σ s.heap := hI
  have h7 : ∀ w ∈ wsX70, w ∈ wsX7_template := fun _ h => List.mem_cons_of_mem _ (List.mem_append_right _ h)
  have hS : va_S A s.heap s.heap [] := va_S.rf
  refine lv_aload_n hx hb dX7_template_0 rfl (lv_at hl 0 rfl) ?_
  refine lv_aload_n hx hb dX7_template_1 rfl (lv_at hl 0 rfl) ?_
  refine lv_iload_n hx hb dX7_template_2 rfl (lv_at hl 1 rfl) ?_
  refine lv_iload_n hx hb dX7_template_3 rfl (lv_at hl 2 rfl) ?_
  refine lv_iload_n hx hb dX7_template_4 rfl (lv_at hl 3 rfl) ?_
  refine xr_call (va_runS (As := [.int b]) (rest := [.int p2, .int p1, .ref M, .ref M]) ⟨hx, hb, hml, hown, hts⟩ (c_X7_isBase l D cA b) (va_cwS 1 hts gX7_template_X7_isBase rfl rfl rfl (by decide +kernel) ⟨Nat.le_of_ble_eq_true rfl, Nat.le_of_ble_eq_true rfl⟩) (xPS hK trivial) rfl rfl hl.1 rfl (lv_room (Nat.le_of_ble_eq_true rfl)) dX7_template_5 ⟨Nat.le_of_ble_eq_true rfl, Nat.le_of_ble_eq_true rfl⟩) ?_
  refine xb_eq (tgt := 25) hx hb dX7_template_8 (by decide) (fun c_1 => ?_) (fun c_1 => ?_)
  · refine lv_iconst (v := 0) hx hb dX7_template_25 (by decide) ?_
    refine lv_iload hx hb dX7_template_26 (lv_at hl 6 rfl) ?_
    refine lv_iconst (v := 0) hx hb dX7_template_28 (by decide) ?_
    refine xr_call (va_runV (As := [.int p1, .int p2, .int 0, .int o, .int 0]) (rest := [.ref M]) ⟨hx, hb, hml, hown, hts⟩ (c_X7_wrong l D cA A M ad σ p1 p2 false o false nL hL hL2) (cwV 5 hts gX7_template_X7_wrong rfl rfl rfl (by decide +kernel) ⟨Nat.le_of_ble_eq_true rfl, Nat.le_of_ble_eq_true rfl⟩) (xPV hK hM.1 rfl hM) rfl rfl hl.1 rfl (lv_room (Nat.le_of_ble_eq_true rfl)) dX7_template_29 ⟨Nat.le_of_ble_eq_true rfl, Nat.le_of_ble_eq_true rfl⟩) ?_
    refine xw_calls (va_runV (As := [.int (wrF σ nL p1 p2 false o false)]) (rest := []) ⟨hx, hb, hml, hown, hts⟩ (c_X7_goes l D cA A M ad σ (wrF σ nL p1 p2 false o false)) (cwV 1 hts gX7_template_X7_goes rfl rfl rfl (by decide +kernel) ⟨Nat.le_of_ble_eq_true rfl, Nat.le_of_ble_eq_true rfl⟩) (xPV hK hM.1 rfl hM) rfl rfl hl.1 rfl (lv_room (Nat.le_of_ble_eq_true rfl)) dX7_template_32 ⟨Nat.le_of_ble_eq_true rfl, Nat.le_of_ble_eq_true rfl⟩) hS (fun _ _ h => h) (fun _ h => h) (fun H locs hM _ _ hS => ?_)
    refine xb_eq (tgt := 58) hx hb dX7_template_35 (by decide) (fun c_2 => ?_) (fun c_2 => ?_)
    · have z_c_2 : ¬ (wrF σ nL p1 p2 false o false) = 0 := fun q => by simp [gz, q] at c_2
      refine lv_iconst (v := 0) hx hb dX7_template_58 (by decide) ?_
      exact xw_iret hx hb hr hlocks hS (mJ_no hM rfl z_c_2 rfl (PE.rf.sg 25 _ (by decide))) (Nat.le_refl _) (Nat.le_refl _) dX7_template_59
    · have z_c_2 := gz_t c_2
      obtain ⟨y1_c_2, y2_c_2, y3_c_2, y4_c_2⟩ := wrF_0 z_c_2
      obtain ⟨j_p1, hj_p1, rfl⟩ := okN_of (by omega) y1_c_2
      obtain ⟨j_p2, hj_p2, rfl⟩ := okS_of y2_c_2
      have ecl : cl (nI j_p1) (nI j_p2) = 16 * j_p1 + j_p2 := cl_nI (by omega) hj_p2
      refine lv_aload_n hx hb dX7_template_38 rfl (lv_at hl 0 rfl) ?_
      refine lv_iload_n hx hb dX7_template_39 rfl (lv_at hl 1 rfl) ?_
      refine lv_iload_n hx hb dX7_template_40 rfl (lv_at hl 2 rfl) ?_
      refine xr_call (va_runS (As := [.int (nI j_p1), .int (nI j_p2)]) (rest := [.ref M]) ⟨hx, hb, hml, hown, hts⟩ (c_X7_cell l D cA j_p1 j_p2) (va_cwS 2 hts gX7_template_X7_cell rfl rfl rfl (by decide +kernel) ⟨Nat.le_of_ble_eq_true rfl, Nat.le_of_ble_eq_true rfl⟩) (xPS hK trivial) rfl rfl hl.1 rfl (lv_room (Nat.le_of_ble_eq_true rfl)) dX7_template_41 ⟨Nat.le_of_ble_eq_true rfl, Nat.le_of_ble_eq_true rfl⟩) ?_
      refine lv_iload_n hx hb dX7_template_44 rfl (lv_at hl 3 rfl) ?_
      refine lv_iload hx hb dX7_template_45 (lv_at hl 4 rfl) ?_
      refine lv_iload hx hb dX7_template_47 (lv_at hl 5 rfl) ?_
      refine xr_call (va_runS (As := [.int b, .int f, .int s2]) (rest := [.int (nI (16 * j_p1 + j_p2)), .ref M]) ⟨hx, hb, hml, hown, hts⟩ (c_X7_entry l D cA b f s2) (va_cwS 3 hts gX7_template_X7_entry rfl rfl rfl (by decide +kernel) ⟨Nat.le_of_ble_eq_true rfl, Nat.le_of_ble_eq_true rfl⟩) (xPS hK trivial) rfl rfl hl.1 rfl (lv_room (Nat.le_of_ble_eq_true rfl)) dX7_template_49 ⟨Nat.le_of_ble_eq_true rfl, Nat.le_of_ble_eq_true rfl⟩) ?_
      refine xw_calls (va_runV (As := [.int (nI (16 * j_p1 + j_p2)), .int (enc b f s2)]) (rest := []) ⟨hx, hb, hml, hown, hts⟩ (c_X7_puts l D cA A M ad (sg σ 25 (wrF σ nL (nI j_p1) (nI j_p2) false o false)) (16 * j_p1 + j_p2) (enc b f s2) (by omega) nV hV hV2) (cwV 2 hts gX7_template_X7_puts rfl rfl rfl (by decide +kernel) ⟨Nat.le_of_ble_eq_true rfl, Nat.le_of_ble_eq_true rfl⟩) (xPV hK hM.1 rfl hM) rfl rfl hl.1 rfl (lv_room (Nat.le_of_ble_eq_true rfl)) dX7_template_52 ⟨Nat.le_of_ble_eq_true rfl, Nat.le_of_ble_eq_true rfl⟩) hS (fun _ _ h => h) (fun _ h => h) (fun H locs hM _ _ hS => ?_)
      refine lv_goto (tgt := 59) hx hb dX7_template_55 (by decide) ?_
      exact xw_iret hx hb hr hlocks hS (mJ_ok hM z_c_2 z_c_2 (by rw [ecl]; exact ⟨rfl, (PE_put (PE.rf.sg 25 0 (by decide)) nV (16 * j_p1 + j_p2) _)⟩)) (Nat.le_refl _) (Nat.le_refl _) dX7_template_59
  · refine lv_iload hx hb dX7_template_11 (lv_at hl 4 rfl) ?_
    refine lv_iload hx hb dX7_template_13 (lv_at hl 5 rfl) ?_
    refine xr_call (va_runS (As := [.int f, .int s2]) (rest := [.int p2, .int p1, .ref M, .ref M]) ⟨hx, hb, hml, hown, hts⟩ (c_X7_areSettings l D cA f s2) (va_cwS 2 hts gX7_template_X7_areSettings rfl rfl rfl (by decide +kernel) ⟨Nat.le_of_ble_eq_true rfl, Nat.le_of_ble_eq_true rfl⟩) (xPS hK trivial) rfl rfl hl.1 rfl (lv_room (Nat.le_of_ble_eq_true rfl)) dX7_template_15 ⟨Nat.le_of_ble_eq_true rfl, Nat.le_of_ble_eq_true rfl⟩) ?_
    refine xb_eq (tgt := 25) hx hb dX7_template_18 (by decide) (fun c_3 => ?_) (fun c_3 => ?_)
    · refine lv_iconst (v := 0) hx hb dX7_template_25 (by decide) ?_
      refine lv_iload hx hb dX7_template_26 (lv_at hl 6 rfl) ?_
      refine lv_iconst (v := 0) hx hb dX7_template_28 (by decide) ?_
      refine xr_call (va_runV (As := [.int p1, .int p2, .int 0, .int o, .int 0]) (rest := [.ref M]) ⟨hx, hb, hml, hown, hts⟩ (c_X7_wrong l D cA A M ad σ p1 p2 false o false nL hL hL2) (cwV 5 hts gX7_template_X7_wrong rfl rfl rfl (by decide +kernel) ⟨Nat.le_of_ble_eq_true rfl, Nat.le_of_ble_eq_true rfl⟩) (xPV hK hM.1 rfl hM) rfl rfl hl.1 rfl (lv_room (Nat.le_of_ble_eq_true rfl)) dX7_template_29 ⟨Nat.le_of_ble_eq_true rfl, Nat.le_of_ble_eq_true rfl⟩) ?_
      refine xw_calls (va_runV (As := [.int (wrF σ nL p1 p2 false o false)]) (rest := []) ⟨hx, hb, hml, hown, hts⟩ (c_X7_goes l D cA A M ad σ (wrF σ nL p1 p2 false o false)) (cwV 1 hts gX7_template_X7_goes rfl rfl rfl (by decide +kernel) ⟨Nat.le_of_ble_eq_true rfl, Nat.le_of_ble_eq_true rfl⟩) (xPV hK hM.1 rfl hM) rfl rfl hl.1 rfl (lv_room (Nat.le_of_ble_eq_true rfl)) dX7_template_32 ⟨Nat.le_of_ble_eq_true rfl, Nat.le_of_ble_eq_true rfl⟩) hS (fun _ _ h => h) (fun _ h => h) (fun H locs hM _ _ hS => ?_)
      refine xb_eq (tgt := 58) hx hb dX7_template_35 (by decide) (fun c_4 => ?_) (fun c_4 => ?_)
      · have z_c_4 : ¬ (wrF σ nL p1 p2 false o false) = 0 := fun q => by simp [gz, q] at c_4
        refine lv_iconst (v := 0) hx hb dX7_template_58 (by decide) ?_
        exact xw_iret hx hb hr hlocks hS (mJ_no hM rfl z_c_4 rfl (PE.rf.sg 25 _ (by decide))) (Nat.le_refl _) (Nat.le_refl _) dX7_template_59
      · have z_c_4 := gz_t c_4
        obtain ⟨y1_c_4, y2_c_4, y3_c_4, y4_c_4⟩ := wrF_0 z_c_4
        obtain ⟨j_p1, hj_p1, rfl⟩ := okN_of (by omega) y1_c_4
        obtain ⟨j_p2, hj_p2, rfl⟩ := okS_of y2_c_4
        have ecl : cl (nI j_p1) (nI j_p2) = 16 * j_p1 + j_p2 := cl_nI (by omega) hj_p2
        refine lv_aload_n hx hb dX7_template_38 rfl (lv_at hl 0 rfl) ?_
        refine lv_iload_n hx hb dX7_template_39 rfl (lv_at hl 1 rfl) ?_
        refine lv_iload_n hx hb dX7_template_40 rfl (lv_at hl 2 rfl) ?_
        refine xr_call (va_runS (As := [.int (nI j_p1), .int (nI j_p2)]) (rest := [.ref M]) ⟨hx, hb, hml, hown, hts⟩ (c_X7_cell l D cA j_p1 j_p2) (va_cwS 2 hts gX7_template_X7_cell rfl rfl rfl (by decide +kernel) ⟨Nat.le_of_ble_eq_true rfl, Nat.le_of_ble_eq_true rfl⟩) (xPS hK trivial) rfl rfl hl.1 rfl (lv_room (Nat.le_of_ble_eq_true rfl)) dX7_template_41 ⟨Nat.le_of_ble_eq_true rfl, Nat.le_of_ble_eq_true rfl⟩) ?_
        refine lv_iload_n hx hb dX7_template_44 rfl (lv_at hl 3 rfl) ?_
        refine lv_iload hx hb dX7_template_45 (lv_at hl 4 rfl) ?_
        refine lv_iload hx hb dX7_template_47 (lv_at hl 5 rfl) ?_
        refine xr_call (va_runS (As := [.int b, .int f, .int s2]) (rest := [.int (nI (16 * j_p1 + j_p2)), .ref M]) ⟨hx, hb, hml, hown, hts⟩ (c_X7_entry l D cA b f s2) (va_cwS 3 hts gX7_template_X7_entry rfl rfl rfl (by decide +kernel) ⟨Nat.le_of_ble_eq_true rfl, Nat.le_of_ble_eq_true rfl⟩) (xPS hK trivial) rfl rfl hl.1 rfl (lv_room (Nat.le_of_ble_eq_true rfl)) dX7_template_49 ⟨Nat.le_of_ble_eq_true rfl, Nat.le_of_ble_eq_true rfl⟩) ?_
        refine xw_calls (va_runV (As := [.int (nI (16 * j_p1 + j_p2)), .int (enc b f s2)]) (rest := []) ⟨hx, hb, hml, hown, hts⟩ (c_X7_puts l D cA A M ad (sg σ 25 (wrF σ nL (nI j_p1) (nI j_p2) false o false)) (16 * j_p1 + j_p2) (enc b f s2) (by omega) nV hV hV2) (cwV 2 hts gX7_template_X7_puts rfl rfl rfl (by decide +kernel) ⟨Nat.le_of_ble_eq_true rfl, Nat.le_of_ble_eq_true rfl⟩) (xPV hK hM.1 rfl hM) rfl rfl hl.1 rfl (lv_room (Nat.le_of_ble_eq_true rfl)) dX7_template_52 ⟨Nat.le_of_ble_eq_true rfl, Nat.le_of_ble_eq_true rfl⟩) hS (fun _ _ h => h) (fun _ h => h) (fun H locs hM _ _ hS => ?_)
        refine lv_goto (tgt := 59) hx hb dX7_template_55 (by decide) ?_
        exact xw_iret hx hb hr hlocks hS (mJ_ok hM z_c_4 z_c_4 (by rw [ecl]; exact ⟨rfl, (PE_put (PE.rf.sg 25 0 (by decide)) nV (16 * j_p1 + j_p2) _)⟩)) (Nat.le_refl _) (Nat.le_refl _) dX7_template_59
    · refine lv_iconst (v := 1) hx hb dX7_template_21 (by decide) ?_
      refine lv_goto (tgt := 26) hx hb dX7_template_22 (by decide) ?_
      refine lv_iload hx hb dX7_template_26 (lv_at hl 6 rfl) ?_
      refine lv_iconst (v := 0) hx hb dX7_template_28 (by decide) ?_
      refine xr_call (va_runV (As := [.int p1, .int p2, .int 1, .int o, .int 0]) (rest := [.ref M]) ⟨hx, hb, hml, hown, hts⟩ (c_X7_wrong l D cA A M ad σ p1 p2 true o false nL hL hL2) (cwV 5 hts gX7_template_X7_wrong rfl rfl rfl (by decide +kernel) ⟨Nat.le_of_ble_eq_true rfl, Nat.le_of_ble_eq_true rfl⟩) (xPV hK hM.1 rfl hM) rfl rfl hl.1 rfl (lv_room (Nat.le_of_ble_eq_true rfl)) dX7_template_29 ⟨Nat.le_of_ble_eq_true rfl, Nat.le_of_ble_eq_true rfl⟩) ?_
      refine xw_calls (va_runV (As := [.int (wrF σ nL p1 p2 true o false)]) (rest := []) ⟨hx, hb, hml, hown, hts⟩ (c_X7_goes l D cA A M ad σ (wrF σ nL p1 p2 true o false)) (cwV 1 hts gX7_template_X7_goes rfl rfl rfl (by decide +kernel) ⟨Nat.le_of_ble_eq_true rfl, Nat.le_of_ble_eq_true rfl⟩) (xPV hK hM.1 rfl hM) rfl rfl hl.1 rfl (lv_room (Nat.le_of_ble_eq_true rfl)) dX7_template_32 ⟨Nat.le_of_ble_eq_true rfl, Nat.le_of_ble_eq_true rfl⟩) hS (fun _ _ h => h) (fun _ h => h) (fun H locs hM _ _ hS => ?_)
      refine xb_eq (tgt := 58) hx hb dX7_template_35 (by decide) (fun c_5 => ?_) (fun c_5 => ?_)
      · have z_c_5 : ¬ (wrF σ nL p1 p2 true o false) = 0 := fun q => by simp [gz, q] at c_5
        refine lv_iconst (v := 0) hx hb dX7_template_58 (by decide) ?_
        exact xw_iret hx hb hr hlocks hS (mJ_no hM rfl z_c_5 rfl (PE.rf.sg 25 _ (by decide))) (Nat.le_refl _) (Nat.le_refl _) dX7_template_59
      · have z_c_5 := gz_t c_5
        obtain ⟨y1_c_5, y2_c_5, y3_c_5, y4_c_5⟩ := wrF_0 z_c_5
        obtain ⟨j_p1, hj_p1, rfl⟩ := okN_of (by omega) y1_c_5
        obtain ⟨j_p2, hj_p2, rfl⟩ := okS_of y2_c_5
        have ecl : cl (nI j_p1) (nI j_p2) = 16 * j_p1 + j_p2 := cl_nI (by omega) hj_p2
        refine lv_aload_n hx hb dX7_template_38 rfl (lv_at hl 0 rfl) ?_
        refine lv_iload_n hx hb dX7_template_39 rfl (lv_at hl 1 rfl) ?_
        refine lv_iload_n hx hb dX7_template_40 rfl (lv_at hl 2 rfl) ?_
        refine xr_call (va_runS (As := [.int (nI j_p1), .int (nI j_p2)]) (rest := [.ref M]) ⟨hx, hb, hml, hown, hts⟩ (c_X7_cell l D cA j_p1 j_p2) (va_cwS 2 hts gX7_template_X7_cell rfl rfl rfl (by decide +kernel) ⟨Nat.le_of_ble_eq_true rfl, Nat.le_of_ble_eq_true rfl⟩) (xPS hK trivial) rfl rfl hl.1 rfl (lv_room (Nat.le_of_ble_eq_true rfl)) dX7_template_41 ⟨Nat.le_of_ble_eq_true rfl, Nat.le_of_ble_eq_true rfl⟩) ?_
        refine lv_iload_n hx hb dX7_template_44 rfl (lv_at hl 3 rfl) ?_
        refine lv_iload hx hb dX7_template_45 (lv_at hl 4 rfl) ?_
        refine lv_iload hx hb dX7_template_47 (lv_at hl 5 rfl) ?_
        refine xr_call (va_runS (As := [.int b, .int f, .int s2]) (rest := [.int (nI (16 * j_p1 + j_p2)), .ref M]) ⟨hx, hb, hml, hown, hts⟩ (c_X7_entry l D cA b f s2) (va_cwS 3 hts gX7_template_X7_entry rfl rfl rfl (by decide +kernel) ⟨Nat.le_of_ble_eq_true rfl, Nat.le_of_ble_eq_true rfl⟩) (xPS hK trivial) rfl rfl hl.1 rfl (lv_room (Nat.le_of_ble_eq_true rfl)) dX7_template_49 ⟨Nat.le_of_ble_eq_true rfl, Nat.le_of_ble_eq_true rfl⟩) ?_
        refine xw_calls (va_runV (As := [.int (nI (16 * j_p1 + j_p2)), .int (enc b f s2)]) (rest := []) ⟨hx, hb, hml, hown, hts⟩ (c_X7_puts l D cA A M ad (sg σ 25 (wrF σ nL (nI j_p1) (nI j_p2) true o false)) (16 * j_p1 + j_p2) (enc b f s2) (by omega) nV hV hV2) (cwV 2 hts gX7_template_X7_puts rfl rfl rfl (by decide +kernel) ⟨Nat.le_of_ble_eq_true rfl, Nat.le_of_ble_eq_true rfl⟩) (xPV hK hM.1 rfl hM) rfl rfl hl.1 rfl (lv_room (Nat.le_of_ble_eq_true rfl)) dX7_template_52 ⟨Nat.le_of_ble_eq_true rfl, Nat.le_of_ble_eq_true rfl⟩) hS (fun _ _ h => h) (fun _ h => h) (fun H locs hM _ _ hS => ?_)
        refine lv_goto (tgt := 59) hx hb dX7_template_55 (by decide) ?_
        exact xw_iret hx hb hr hlocks hS (mJ_ok hM z_c_5 z_c_5 (by rw [ecl]; exact ⟨rfl, (PE_put (PE.rf.sg 25 0 (by decide)) nV (16 * j_p1 + j_p2) _)⟩)) (Nat.le_refl _) (Nat.le_refl _) dX7_template_59
