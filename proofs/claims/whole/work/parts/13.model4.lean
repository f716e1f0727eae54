set_option maxHeartbeats 4000000 in
set_option maxRecDepth 100000 in
theorem c_X7_set (l : Launch) (D : va_G) (cA : Nat → ClassId) (A : Nat → Prop) (M : Nat) (ad : Nat → Nat) (σ : MS) (p1 : Int32) (p2 : Int32) (v : Int32) (o : Int32) (nL : Nat) (hL : σ.1 6 = nI nL) (hL2 : nL ≤ 8) (nV : Nat) (hV : σ.1 13 = nI nV) (hV2 : nV < 512) : Met l yX7_set wsX7_set (rmK 4 0 0) (xP D cA [.ref M, .int p1, .int p2, .int v, .int o] (MR D cA A M ad σ)) (xW (mJ D cA A M ad σ (wrF σ nL p1 p2 (okB v) o false) (fun r τ => r = some (.int (nI (putV σ nV (cl p1 p2) (enc v (-1) (-1))))) ∧ PE τ (putS σ nV (cl p1 p2) (enc v (-1) (-1))))) A) 0 0 A := by
  refine Met.ofW (cc := cX7_set) (maxL := 5) (ret := (some .int)) (by decide) rfl ?_
  intro p e s m args below meth c s₁ B hml hv
  obtain ⟨rfl, hK, hI⟩ := hv
  have hx := B.exec
  have hb := B.bytes
  have hr := B.returns
  have hts := atoms_spec (ws := wsX7_set) B.pre
  have hown : s.vm.findClass RX7 = some m.cls := findClass_of_methodNamed B.named
  have hlocks := B.notSynchronized
  have hl := lv_entry ([.ref M, .int p1, .int p2, .int v, .int o]) (n := 5) (Nat.le_of_ble_eq_true rfl)
  rw [lg_entry_eq]
  generalize (lg_sl ([.ref M, .int p1, .int p2, .int v, .int o]) ++ List.replicate (5 - (lg_sl ([.ref M, .int p1, .int p2, .int v, .int o])).length) Slot.unset).toArray = ls at hl ⊢
  have hl : lv_has ls 5 [(0, .ref M), (1, .int p1), (2, .int p2), (3, .int v), (4, .int o)] := hl
  have hM : MR D cA A M ad σ s.heap := hI
  have h7 : ∀ w ∈ wsX70, w ∈ wsX7_set := fun _ h => List.mem_cons_of_mem _ (List.mem_append_right _ h)
  have hS : va_S A s.heap s.heap [] := va_S.rf
  refine lv_aload_n hx hb dX7_set_0 rfl (lv_at hl 0 rfl) ?_
  refine lv_aload_n hx hb dX7_set_1 rfl (lv_at hl 0 rfl) ?_
  refine lv_iload_n hx hb dX7_set_2 rfl (lv_at hl 1 rfl) ?_
  refine lv_iload_n hx hb dX7_set_3 rfl (lv_at hl 2 rfl) ?_
  refine lv_iload_n hx hb dX7_set_4 rfl (lv_at hl 3 rfl) ?_
  refine xr_call (va_runS (As := [.int v]) (rest := [.int p2, .int p1, .ref M, .ref M]) ⟨hx, hb, hml, hown, hts⟩ (c_X7_isBase l D cA v) (va_cwS 1 hts gX7_set_X7_isBase rfl rfl rfl (by decide +kernel) ⟨Nat.le_of_ble_eq_true rfl, Nat.le_of_ble_eq_true rfl⟩) (xPS hK trivial) rfl rfl hl.1 rfl (lv_room (Nat.le_of_ble_eq_true rfl)) dX7_set_5 ⟨Nat.le_of_ble_eq_true rfl, Nat.le_of_ble_eq_true rfl⟩) ?_
  refine lv_iload hx hb dX7_set_8 (lv_at hl 4 rfl) ?_
  refine lv_iconst (v := 0) hx hb dX7_set_10 (by decide) ?_
  refine xr_call (va_runV (As := [.int p1, .int p2, .int (bI (okB v)), .int o, .int 0]) (rest := [.ref M]) ⟨hx, hb, hml, hown, hts⟩ (c_X7_wrong l D cA A M ad σ p1 p2 (okB v) o false nL hL hL2) (cwV 5 hts gX7_set_X7_wrong rfl rfl rfl (by decide +kernel) ⟨Nat.le_of_ble_eq_true rfl, Nat.le_of_ble_eq_true rfl⟩) (xPV hK hM.1 rfl hM) rfl rfl hl.1 rfl (lv_room (Nat.le_of_ble_eq_true rfl)) dX7_set_11 ⟨Nat.le_of_ble_eq_true rfl, Nat.le_of_ble_eq_true rfl⟩) ?_
  refine xw_calls (va_runV (As := [.int (wrF σ nL p1 p2 (okB v) o false)]) (rest := []) ⟨hx, hb, hml, hown, hts⟩ (c_X7_goes l D cA A M ad σ (wrF σ nL p1 p2 (okB v) o false)) (cwV 1 hts gX7_set_X7_goes rfl rfl rfl (by decide +kernel) ⟨Nat.le_of_ble_eq_true rfl, Nat.le_of_ble_eq_true rfl⟩) (xPV hK hM.1 rfl hM) rfl rfl hl.1 rfl (lv_room (Nat.le_of_ble_eq_true rfl)) dX7_set_14 ⟨Nat.le_of_ble_eq_true rfl, Nat.le_of_ble_eq_true rfl⟩) hS (fun _ _ h => h) (fun _ h => h) (fun H locs hM _ _ hS => ?_)
  refine xb_eq (tgt := 38) hx hb dX7_set_17 (by decide) (fun c_1 => ?_) (fun c_1 => ?_)
  · have z_c_1 : ¬ (wrF σ nL p1 p2 (okB v) o false) = 0 := fun q => by simp [gz, q] at c_1
    refine lv_iconst (v := 0) hx hb dX7_set_38 (by decide) ?_
    exact xw_iret hx hb hr hlocks hS (mJ_no hM rfl z_c_1 rfl (PE.rf.sg 25 _ (by decide))) (Nat.le_refl _) (Nat.le_refl _) dX7_set_39
  · have z_c_1 := gz_t c_1
    obtain ⟨y1_c_1, y2_c_1, y3_c_1, y4_c_1⟩ := wrF_0 z_c_1
    obtain ⟨j_p1, hj_p1, rfl⟩ := okN_of (by omega) y1_c_1
    obtain ⟨j_p2, hj_p2, rfl⟩ := okS_of y2_c_1
    have ecl : cl (nI j_p1) (nI j_p2) = 16 * j_p1 + j_p2 := cl_nI (by omega) hj_p2
    refine lv_aload_n hx hb dX7_set_20 rfl (lv_at hl 0 rfl) ?_
    refine lv_iload_n hx hb dX7_set_21 rfl (lv_at hl 1 rfl) ?_
    refine lv_iload_n hx hb dX7_set_22 rfl (lv_at hl 2 rfl) ?_
    refine xr_call (va_runS (As := [.int (nI j_p1), .int (nI j_p2)]) (rest := [.ref M]) ⟨hx, hb, hml, hown, hts⟩ (c_X7_cell l D cA j_p1 j_p2) (va_cwS 2 hts gX7_set_X7_cell rfl rfl rfl (by decide +kernel) ⟨Nat.le_of_ble_eq_true rfl, Nat.le_of_ble_eq_true rfl⟩) (xPS hK trivial) rfl rfl hl.1 rfl (lv_room (Nat.le_of_ble_eq_true rfl)) dX7_set_23 ⟨Nat.le_of_ble_eq_true rfl, Nat.le_of_ble_eq_true rfl⟩) ?_
    refine lv_iload_n hx hb dX7_set_26 rfl (lv_at hl 3 rfl) ?_
    refine lv_iconst (v := (-1)) hx hb dX7_set_27 (by decide) ?_
    refine lv_iconst (v := (-1)) hx hb dX7_set_28 (by decide) ?_
    refine xr_call (va_runS (As := [.int v, .int (-1), .int (-1)]) (rest := [.int (nI (16 * j_p1 + j_p2)), .ref M]) ⟨hx, hb, hml, hown, hts⟩ (c_X7_entry l D cA v (-1) (-1)) (va_cwS 3 hts gX7_set_X7_entry rfl rfl rfl (by decide +kernel) ⟨Nat.le_of_ble_eq_true rfl, Nat.le_of_ble_eq_true rfl⟩) (xPS hK trivial) rfl rfl hl.1 rfl (lv_room (Nat.le_of_ble_eq_true rfl)) dX7_set_29 ⟨Nat.le_of_ble_eq_true rfl, Nat.le_of_ble_eq_true rfl⟩) ?_
    refine xw_calls (va_runV (As := [.int (nI (16 * j_p1 + j_p2)), .int (enc v (-1) (-1))]) (rest := []) ⟨hx, hb, hml, hown, hts⟩ (c_X7_puts l D cA A M ad (sg σ 25 (wrF σ nL (nI j_p1) (nI j_p2) (okB v) o false)) (16 * j_p1 + j_p2) (enc v (-1) (-1)) (by omega) nV hV hV2) (cwV 2 hts gX7_set_X7_puts rfl rfl rfl (by decide +kernel) ⟨Nat.le_of_ble_eq_true rfl, Nat.le_of_ble_eq_true rfl⟩) (xPV hK hM.1 rfl hM) rfl rfl hl.1 rfl (lv_room (Nat.le_of_ble_eq_true rfl)) dX7_set_32 ⟨Nat.le_of_ble_eq_true rfl, Nat.le_of_ble_eq_true rfl⟩) hS (fun _ _ h => h) (fun _ h => h) (fun H locs hM _ _ hS => ?_)
    refine lv_goto (tgt := 39) hx hb dX7_set_35 (by decide) ?_
    exact xw_iret hx hb hr hlocks hS (mJ_ok hM z_c_1 ((putS_25 _ _ _ _).trans z_c_1) (by rw [ecl]; exact ⟨rfl, (PE_put (PE.rf.sg 25 _ (by decide)) nV (16 * j_p1 + j_p2) _)⟩)) (Nat.le_refl _) (Nat.le_refl _) dX7_set_39
set_option maxHeartbeats 4000000 in
set_option maxRecDepth 100000 in
theorem c_X7_template (l : Launch) (D : va_G) (cA : Nat → ClassId) (A : Nat → Prop) (M : Nat) (ad : Nat → Nat) (σ : MS) (p1 : Int32) (p2 : Int32) (b : Int32) (f : Int32) (s2 : Int32) (o : Int32) (nL : Nat) (hL : σ.1 6 = nI nL) (hL2 : nL ≤ 8) (nV : Nat) (hV : σ.1 13 = nI nV) (hV2 : nV < 512) : Met l yX7_template wsX7_template (rmK 4 0 0) (xP D cA [.ref M, .int p1, .int p2, .int b, .int f, .int s2, .int o] (MR D cA A M ad σ)) (xW (mJ D cA A M ad σ (wrF σ nL p1 p2 (okB b && okT f s2) o false) (fun r τ => r = some (.int (nI (putV σ nV (cl p1 p2) (enc b f s2)))) ∧ PE τ (putS σ nV (cl p1 p2) (enc b f s2)))) A) 0 0 A := by
  refine Met.ofW (cc := cX7_template) (maxL := 7) (ret := (some .int)) (by decide) rfl ?_
  intro p e s m args below meth c s₁ B hml hv
  obtain ⟨rfl, hK, hI⟩ := hv
  have hx := B.exec
  have hb := B.bytes
  have hr := B.returns
  have hts := atoms_spec (ws := wsX7_template) B.pre
  have hown : s.vm.findClass RX7 = some m.cls := findClass_of_methodNamed B.named
  have hlocks := B.notSynchronized
  have hl := lv_entry ([.ref M, .int p1, .int p2, .int b, .int f, .int s2, .int o]) (n := 7) (Nat.le_of_ble_eq_true rfl)
  rw [lg_entry_eq]
  generalize (lg_sl ([.ref M, .int p1, .int p2, .int b, .int f, .int s2, .int o]) ++ List.replicate (7 - (lg_sl ([.ref M, .int p1, .int p2, .int b, .int f, .int s2, .int o])).length) Slot.unset).toArray = ls at hl ⊢
  have hl : lv_has ls 7 [(0, .ref M), (1, .int p1), (2, .int p2), (3, .int b), (4, .int f), (5, .int s2), (6, .int o)] := hl
  have hM : MR D cA A M ad σ s.heap := hI
  have h7 : ∀ w ∈ wsX70, w ∈ wsX7_template := fun _ h => List.mem_cons_of_mem _ (List.mem_append_right _ h)
  have hS : va_S A s.heap s.heap [] := va_S.rf
  refine lv_aload_n hx hb dX7_template_0 rfl (lv_at hl 0 rfl) ?_
  refine lv_aload_n hx hb dX7_template_1 rfl (lv_at hl 0 rfl) ?_
  refine lv_iload_n hx hb dX7_template_2 rfl (lv_at hl 1 rfl) ?_
  refine lv_iload_n hx hb dX7_template_3 rfl (lv_at hl 2 rfl) ?_
  refine lv_iload_n hx hb dX7_template_4 rfl (lv_at hl 3 rfl) ?_
  refine xr_call (va_runS (As := [.int b]) (rest := [.int p2, .int p1, .ref M, .ref M]) ⟨hx, hb, hml, hown, hts⟩ (c_X7_isBase l D cA b) (va_cwS 1 hts gX7_template_X7_isBase rfl rfl rfl (by decide +kernel) ⟨Nat.le_of_ble_eq_true rfl, Nat.le_of_ble_eq_true rfl⟩) (xPS hK trivial) rfl rfl hl.1 rfl (lv_room (Nat.le_of_ble_eq_true rfl)) dX7_template_5 ⟨Nat.le_of_ble_eq_true rfl, Nat.le_of_ble_eq_true rfl⟩) ?_
  refine xb_eq (tgt := 25) hx hb dX7_template_8 (by decide) (fun c_1 => ?_) (fun c_1 => ?_)
  · refine lv_iconst (v := 0) hx hb dX7_template_25 (by decide) ?_
    refine lv_iload hx hb dX7_template_26 (lv_at hl 6 rfl) ?_
    refine lv_iconst (v := 0) hx hb dX7_template_28 (by decide) ?_
    refine xr_call (va_runV (As := [.int p1, .int p2, .int 0, .int o, .int 0]) (rest := [.ref M]) ⟨hx, hb, hml, hown, hts⟩ (c_X7_wrong l D cA A M ad σ p1 p2 false o false nL hL hL2) (cwV 5 hts gX7_template_X7_wrong rfl rfl rfl (by decide +kernel) ⟨Nat.le_of_ble_eq_true rfl, Nat.le_of_ble_eq_true rfl⟩) (xPV hK hM.1 rfl hM) rfl rfl hl.1 rfl (lv_room (Nat.le_of_ble_eq_true rfl)) dX7_template_29 ⟨Nat.le_of_ble_eq_true rfl, Nat.le_of_ble_eq_true rfl⟩) ?_
    refine xw_calls (va_runV (As := [.int (wrF σ nL p1 p2 false o false)]) (rest := []) ⟨hx, hb, hml, hown, hts⟩ (c_X7_goes l D cA A M ad σ (wrF σ nL p1 p2 false o false)) (cwV 1 hts gX7_template_X7_goes rfl rfl rfl (by decide +kernel) ⟨Nat.le_of_ble_eq_true rfl, Nat.le_of_ble_eq_true rfl⟩) (xPV hK hM.1 rfl hM) rfl rfl hl.1 rfl (lv_room (Nat.le_of_ble_eq_true rfl)) dX7_template_32 ⟨Nat.le_of_ble_eq_true rfl, Nat.le_of_ble_eq_true rfl⟩) hS (fun _ _ h => h) (fun _ h => h) (fun H locs hM _ _ hS => ?_)
    refine xb_eq (tgt := 58) hx hb dX7_template_35 (by decide) (fun c_2 => ?_) (fun c_2 => ?_)
    · have z_c_2 : ¬ (wrF σ nL p1 p2 false o false) = 0 := fun q => by simp [gz, q] at c_2
      refine lv_iconst (v := 0) hx hb dX7_template_58 (by decide) ?_
      exact xw_iret hx hb hr hlocks hS (mJ_no hM (by rw [show (okB b && okT f s2) = false from by simp [c_1]]) z_c_2 rfl (PE.rf.sg 25 _ (by decide))) (Nat.le_refl _) (Nat.le_refl _) dX7_template_59
    · have z_c_2 := gz_t c_2
      obtain ⟨y1_c_2, y2_c_2, y3_c_2, y4_c_2⟩ := wrF_0 z_c_2
      obtain ⟨j_p1, hj_p1, rfl⟩ := okN_of (by omega) y1_c_2
      obtain ⟨j_p2, hj_p2, rfl⟩ := okS_of y2_c_2
      have ecl : cl (nI j_p1) (nI j_p2) = 16 * j_p1 + j_p2 := cl_nI (by omega) hj_p2
      refine lv_aload_n hx hb dX7_template_38 rfl (lv_at hl 0 rfl) ?_
      refine lv_iload_n hx hb dX7_template_39 rfl (lv_at hl 1 rfl) ?_
      refine lv_iload_n hx hb dX7_template_40 rfl (lv_at hl 2 rfl) ?_
      refine xr_call (va_runS (As := [.int (nI j_p1), .int (nI j_p2)]) (rest := [.ref M]) ⟨hx, hb, hml, hown, hts⟩ (c_X7_cell l D cA j_p1 j_p2) (va_cwS 2 hts gX7_template_X7_cell rfl rfl rfl (by decide +kernel) ⟨Nat.le_of_ble_eq_true rfl, Nat.le_of_ble_eq_true rfl⟩) (xPS hK trivial) rfl rfl hl.1 rfl (lv_room (Nat.le_of_ble_eq_true rfl)) dX7_template_41 ⟨Nat.le_of_ble_eq_true rfl, Nat.le_of_ble_eq_true rfl⟩) ?_
      refine lv_iload_n hx hb dX7_template_44 rfl (lv_at hl 3 rfl) ?_
      refine lv_iload hx hb dX7_template_45 (lv_at hl 4 rfl) ?_
      refine lv_iload hx hb dX7_template_47 (lv_at hl 5 rfl) ?_
      refine xr_call (va_runS (As := [.int b, .int f, .int s2]) (rest := [.int (nI (16 * j_p1 + j_p2)), .ref M]) ⟨hx, hb, hml, hown, hts⟩ (c_X7_entry l D cA b f s2) (va_cwS 3 hts gX7_template_X7_entry rfl rfl rfl (by decide +kernel) ⟨Nat.le_of_ble_eq_true rfl, Nat.le_of_ble_eq_true rfl⟩) (xPS hK trivial) rfl rfl hl.1 rfl (lv_room (Nat.le_of_ble_eq_true rfl)) dX7_template_49 ⟨Nat.le_of_ble_eq_true rfl, Nat.le_of_ble_eq_true rfl⟩) ?_
      refine xw_calls (va_runV (As := [.int (nI (16 * j_p1 + j_p2)), .int (enc b f s2)]) (rest := []) ⟨hx, hb, hml, hown, hts⟩ (c_X7_puts l D cA A M ad (sg σ 25 (wrF σ nL (nI j_p1) (nI j_p2) false o false)) (16 * j_p1 + j_p2) (enc b f s2) (by omega) nV hV hV2) (cwV 2 hts gX7_template_X7_puts rfl rfl rfl (by decide +kernel) ⟨Nat.le_of_ble_eq_true rfl, Nat.le_of_ble_eq_true rfl⟩) (xPV hK hM.1 rfl hM) rfl rfl hl.1 rfl (lv_room (Nat.le_of_ble_eq_true rfl)) dX7_template_52 ⟨Nat.le_of_ble_eq_true rfl, Nat.le_of_ble_eq_true rfl⟩) hS (fun _ _ h => h) (fun _ h => h) (fun H locs hM _ _ hS => ?_)
      refine lv_goto (tgt := 59) hx hb dX7_template_55 (by decide) ?_
      exact xw_iret hx hb hr hlocks hS (mJ_ok hM (by rw [show (okB b && okT f s2) = false from by simp [c_1]]; exact z_c_2) ((putS_25 _ _ _ _).trans z_c_2) (by rw [ecl]; exact ⟨rfl, (PE_put (PE.rf.sg 25 _ (by decide)) nV (16 * j_p1 + j_p2) _)⟩)) (Nat.le_refl _) (Nat.le_refl _) dX7_template_59
  · refine lv_iload hx hb dX7_template_11 (lv_at hl 4 rfl) ?_
    refine lv_iload hx hb dX7_template_13 (lv_at hl 5 rfl) ?_
    refine xr_call (va_runS (As := [.int f, .int s2]) (rest := [.int p2, .int p1, .ref M, .ref M]) ⟨hx, hb, hml, hown, hts⟩ (c_X7_areSettings l D cA f s2) (va_cwS 2 hts gX7_template_X7_areSettings rfl rfl rfl (by decide +kernel) ⟨Nat.le_of_ble_eq_true rfl, Nat.le_of_ble_eq_true rfl⟩) (xPS hK trivial) rfl rfl hl.1 rfl (lv_room (Nat.le_of_ble_eq_true rfl)) dX7_template_15 ⟨Nat.le_of_ble_eq_true rfl, Nat.le_of_ble_eq_true rfl⟩) ?_
    refine xb_eq (tgt := 25) hx hb dX7_template_18 (by decide) (fun c_3 => ?_) (fun c_3 => ?_)
    · refine lv_iconst (v := 0) hx hb dX7_template_25 (by decide) ?_
      refine lv_iload hx hb dX7_template_26 (lv_at hl 6 rfl) ?_
      refine lv_iconst (v := 0) hx hb dX7_template_28 (by decide) ?_
      refine xr_call (va_runV (As := [.int p1, .int p2, .int 0, .int o, .int 0]) (rest := [.ref M]) ⟨hx, hb, hml, hown, hts⟩ (c_X7_wrong l D cA A M ad σ p1 p2 false o false nL hL hL2) (cwV 5 hts gX7_template_X7_wrong rfl rfl rfl (by decide +kernel) ⟨Nat.le_of_ble_eq_true rfl, Nat.le_of_ble_eq_true rfl⟩) (xPV hK hM.1 rfl hM) rfl rfl hl.1 rfl (lv_room (Nat.le_of_ble_eq_true rfl)) dX7_template_29 ⟨Nat.le_of_ble_eq_true rfl, Nat.le_of_ble_eq_true rfl⟩) ?_
      refine xw_calls (va_runV (As := [.int (wrF σ nL p1 p2 false o false)]) (rest := []) ⟨hx, hb, hml, hown, hts⟩ (c_X7_goes l D cA A M ad σ (wrF σ nL p1 p2 false o false)) (cwV 1 hts gX7_template_X7_goes rfl rfl rfl (by decide +kernel) ⟨Nat.le_of_ble_eq_true rfl, Nat.le_of_ble_eq_true rfl⟩) (xPV hK hM.1 rfl hM) rfl rfl hl.1 rfl (lv_room (Nat.le_of_ble_eq_true rfl)) dX7_template_32 ⟨Nat.le_of_ble_eq_true rfl, Nat.le_of_ble_eq_true rfl⟩) hS (fun _ _ h => h) (fun _ h => h) (fun H locs hM _ _ hS => ?_)
      refine xb_eq (tgt := 58) hx hb dX7_template_35 (by decide) (fun c_4 => ?_) (fun c_4 => ?_)
      · have z_c_4 : ¬ (wrF σ nL p1 p2 false o false) = 0 := fun q => by simp [gz, q] at c_4
        refine lv_iconst (v := 0) hx hb dX7_template_58 (by decide) ?_
        exact xw_iret hx hb hr hlocks hS (mJ_no hM (by rw [show (okB b && okT f s2) = false from by simp [c_1, c_3]]) z_c_4 rfl (PE.rf.sg 25 _ (by decide))) (Nat.le_refl _) (Nat.le_refl _) dX7_template_59
      · have z_c_4 := gz_t c_4
        obtain ⟨y1_c_4, y2_c_4, y3_c_4, y4_c_4⟩ := wrF_0 z_c_4
        obtain ⟨j_p1, hj_p1, rfl⟩ := okN_of (by omega) y1_c_4
        obtain ⟨j_p2, hj_p2, rfl⟩ := okS_of y2_c_4
        have ecl : cl (nI j_p1) (nI j_p2) = 16 * j_p1 + j_p2 := cl_nI (by omega) hj_p2
        refine lv_aload_n hx hb dX7_template_38 rfl (lv_at hl 0 rfl) ?_
        refine lv_iload_n hx hb dX7_template_39 rfl (lv_at hl 1 rfl) ?_
        refine lv_iload_n hx hb dX7_template_40 rfl (lv_at hl 2 rfl) ?_
        refine xr_call (va_runS (As := [.int (nI j_p1), .int (nI j_p2)]) (rest := [.ref M]) ⟨hx, hb, hml, hown, hts⟩ (c_X7_cell l D cA j_p1 j_p2) (va_cwS 2 hts gX7_template_X7_cell rfl rfl rfl (by decide +kernel) ⟨Nat.le_of_ble_eq_true rfl, Nat.le_of_ble_eq_true rfl⟩) (xPS hK trivial) rfl rfl hl.1 rfl (lv_room (Nat.le_of_ble_eq_true rfl)) dX7_template_41 ⟨Nat.le_of_ble_eq_true rfl, Nat.le_of_ble_eq_true rfl⟩) ?_
        refine lv_iload_n hx hb dX7_template_44 rfl (lv_at hl 3 rfl) ?_
        refine lv_iload hx hb dX7_template_45 (lv_at hl 4 rfl) ?_
        refine lv_iload hx hb dX7_template_47 (lv_at hl 5 rfl) ?_
        refine xr_call (va_runS (As := [.int b, .int f, .int s2]) (rest := [.int (nI (16 * j_p1 + j_p2)), .ref M]) ⟨hx, hb, hml, hown, hts⟩ (c_X7_entry l D cA b f s2) (va_cwS 3 hts gX7_template_X7_entry rfl rfl rfl (by decide +kernel) ⟨Nat.le_of_ble_eq_true rfl, Nat.le_of_ble_eq_true rfl⟩) (xPS hK trivial) rfl rfl hl.1 rfl (lv_room (Nat.le_of_ble_eq_true rfl)) dX7_template_49 ⟨Nat.le_of_ble_eq_true rfl, Nat.le_of_ble_eq_true rfl⟩) ?_
        refine xw_calls (va_runV (As := [.int (nI (16 * j_p1 + j_p2)), .int (enc b f s2)]) (rest := []) ⟨hx, hb, hml, hown, hts⟩ (c_X7_puts l D cA A M ad (sg σ 25 (wrF σ nL (nI j_p1) (nI j_p2) false o false)) (16 * j_p1 + j_p2) (enc b f s2) (by omega) nV hV hV2) (cwV 2 hts gX7_template_X7_puts rfl rfl rfl (by decide +kernel) ⟨Nat.le_of_ble_eq_true rfl, Nat.le_of_ble_eq_true rfl⟩) (xPV hK hM.1 rfl hM) rfl rfl hl.1 rfl (lv_room (Nat.le_of_ble_eq_true rfl)) dX7_template_52 ⟨Nat.le_of_ble_eq_true rfl, Nat.le_of_ble_eq_true rfl⟩) hS (fun _ _ h => h) (fun _ h => h) (fun H locs hM _ _ hS => ?_)
        refine lv_goto (tgt := 59) hx hb dX7_template_55 (by decide) ?_
        exact xw_iret hx hb hr hlocks hS (mJ_ok hM (by rw [show (okB b && okT f s2) = false from by simp [c_1, c_3]]; exact z_c_4) ((putS_25 _ _ _ _).trans z_c_4) (by rw [ecl]; exact ⟨rfl, (PE_put (PE.rf.sg 25 _ (by decide)) nV (16 * j_p1 + j_p2) _)⟩)) (Nat.le_refl _) (Nat.le_refl _) dX7_template_59
    · refine lv_iconst (v := 1) hx hb dX7_template_21 (by decide) ?_
      refine lv_goto (tgt := 26) hx hb dX7_template_22 (by decide) ?_
      refine lv_iload hx hb dX7_template_26 (lv_at hl 6 rfl) ?_
      refine lv_iconst (v := 0) hx hb dX7_template_28 (by decide) ?_
      refine xr_call (va_runV (As := [.int p1, .int p2, .int 1, .int o, .int 0]) (rest := [.ref M]) ⟨hx, hb, hml, hown, hts⟩ (c_X7_wrong l D cA A M ad σ p1 p2 true o false nL hL hL2) (cwV 5 hts gX7_template_X7_wrong rfl rfl rfl (by decide +kernel) ⟨Nat.le_of_ble_eq_true rfl, Nat.le_of_ble_eq_true rfl⟩) (xPV hK hM.1 rfl hM) rfl rfl hl.1 rfl (lv_room (Nat.le_of_ble_eq_true rfl)) dX7_template_29 ⟨Nat.le_of_ble_eq_true rfl, Nat.le_of_ble_eq_true rfl⟩) ?_
      refine xw_calls (va_runV (As := [.int (wrF σ nL p1 p2 true o false)]) (rest := []) ⟨hx, hb, hml, hown, hts⟩ (c_X7_goes l D cA A M ad σ (wrF σ nL p1 p2 true o false)) (cwV 1 hts gX7_template_X7_goes rfl rfl rfl (by decide +kernel) ⟨Nat.le_of_ble_eq_true rfl, Nat.le_of_ble_eq_true rfl⟩) (xPV hK hM.1 rfl hM) rfl rfl hl.1 rfl (lv_room (Nat.le_of_ble_eq_true rfl)) dX7_template_32 ⟨Nat.le_of_ble_eq_true rfl, Nat.le_of_ble_eq_true rfl⟩) hS (fun _ _ h => h) (fun _ h => h) (fun H locs hM _ _ hS => ?_)
      refine xb_eq (tgt := 58) hx hb dX7_template_35 (by decide) (fun c_5 => ?_) (fun c_5 => ?_)
      · have z_c_5 : ¬ (wrF σ nL p1 p2 true o false) = 0 := fun q => by simp [gz, q] at c_5
        refine lv_iconst (v := 0) hx hb dX7_template_58 (by decide) ?_
        exact xw_iret hx hb hr hlocks hS (mJ_no hM (by rw [show (okB b && okT f s2) = true from by simp [c_1, c_3]]) z_c_5 rfl (PE.rf.sg 25 _ (by decide))) (Nat.le_refl _) (Nat.le_refl _) dX7_template_59
      · have z_c_5 := gz_t c_5
        obtain ⟨y1_c_5, y2_c_5, y3_c_5, y4_c_5⟩ := wrF_0 z_c_5
        obtain ⟨j_p1, hj_p1, rfl⟩ := okN_of (by omega) y1_c_5
        obtain ⟨j_p2, hj_p2, rfl⟩ := okS_of y2_c_5
        have ecl : cl (nI j_p1) (nI j_p2) = 16 * j_p1 + j_p2 := cl_nI (by omega) hj_p2
        refine lv_aload_n hx hb dX7_template_38 rfl (lv_at hl 0 rfl) ?_
        refine lv_iload_n hx hb dX7_template_39 rfl (lv_at hl 1 rfl) ?_
        refine lv_iload_n hx hb dX7_template_40 rfl (lv_at hl 2 rfl) ?_
        refine xr_call (va_runS (As := [.int (nI j_p1), .int (nI j_p2)]) (rest := [.ref M]) ⟨hx, hb, hml, hown, hts⟩ (c_X7_cell l D cA j_p1 j_p2) (va_cwS 2 hts gX7_template_X7_cell rfl rfl rfl (by decide +kernel) ⟨Nat.le_of_ble_eq_true rfl, Nat.le_of_ble_eq_true rfl⟩) (xPS hK trivial) rfl rfl hl.1 rfl (lv_room (Nat.le_of_ble_eq_true rfl)) dX7_template_41 ⟨Nat.le_of_ble_eq_true rfl, Nat.le_of_ble_eq_true rfl⟩) ?_
        refine lv_iload_n hx hb dX7_template_44 rfl (lv_at hl 3 rfl) ?_
        refine lv_iload hx hb dX7_template_45 (lv_at hl 4 rfl) ?_
        refine lv_iload hx hb dX7_template_47 (lv_at hl 5 rfl) ?_
        refine xr_call (va_runS (As := [.int b, .int f, .int s2]) (rest := [.int (nI (16 * j_p1 + j_p2)), .ref M]) ⟨hx, hb, hml, hown, hts⟩ (c_X7_entry l D cA b f s2) (va_cwS 3 hts gX7_template_X7_entry rfl rfl rfl (by decide +kernel) ⟨Nat.le_of_ble_eq_true rfl, Nat.le_of_ble_eq_true rfl⟩) (xPS hK trivial) rfl rfl hl.1 rfl (lv_room (Nat.le_of_ble_eq_true rfl)) dX7_template_49 ⟨Nat.le_of_ble_eq_true rfl, Nat.le_of_ble_eq_true rfl⟩) ?_
        refine xw_calls (va_runV (As := [.int (nI (16 * j_p1 + j_p2)), .int (enc b f s2)]) (rest := []) ⟨hx, hb, hml, hown, hts⟩ (c_X7_puts l D cA A M ad (sg σ 25 (wrF σ nL (nI j_p1) (nI j_p2) true o false)) (16 * j_p1 + j_p2) (enc b f s2) (by omega) nV hV hV2) (cwV 2 hts gX7_template_X7_puts rfl rfl rfl (by decide +kernel) ⟨Nat.le_of_ble_eq_true rfl, Nat.le_of_ble_eq_true rfl⟩) (xPV hK hM.1 rfl hM) rfl rfl hl.1 rfl (lv_room (Nat.le_of_ble_eq_true rfl)) dX7_template_52 ⟨Nat.le_of_ble_eq_true rfl, Nat.le_of_ble_eq_true rfl⟩) hS (fun _ _ h => h) (fun _ h => h) (fun H locs hM _ _ hS => ?_)
        refine lv_goto (tgt := 59) hx hb dX7_template_55 (by decide) ?_
        exact xw_iret hx hb hr hlocks hS (mJ_ok hM (by rw [show (okB b && okT f s2) = true from by simp [c_1, c_3]]; exact z_c_5) ((putS_25 _ _ _ _).trans z_c_5) (by rw [ecl]; exact ⟨rfl, (PE_put (PE.rf.sg 25 _ (by decide)) nV (16 * j_p1 + j_p2) _)⟩)) (Nat.le_refl _) (Nat.le_refl _) dX7_template_59
set_option maxHeartbeats 4000000 in
set_option maxRecDepth 100000 in
theorem c_X7_remove (l : Launch) (D : va_G) (cA : Nat → ClassId) (A : Nat → Prop) (M : Nat) (ad : Nat → Nat) (σ : MS) (p1 : Int32) (p2 : Int32) (o : Int32) (nL : Nat) (hL : σ.1 6 = nI nL) (hL2 : nL ≤ 8) (nV : Nat) (hV : σ.1 13 = nI nV) (hV2 : nV < 512) : Met l yX7_remove wsX7_remove (rmK 4 0 0) (xP D cA [.ref M, .int p1, .int p2, .int o] (MR D cA A M ad σ)) (xW (mJ D cA A M ad σ (kRm σ nL p1 p2 o) (fun r τ => r = some (.int (nI (putV σ nV (cl p1 p2) 0))) ∧ PE τ (putS σ nV (cl p1 p2) 0))) A) 0 0 A := by
  refine Met.ofW (cc := cX7_remove) (maxL := 4) (ret := (some .int)) (by decide) rfl ?_
  intro p e s m args below meth c s₁ B hml hv
  obtain ⟨rfl, hK, hI⟩ := hv
  have hx := B.exec
  have hb := B.bytes
  have hr := B.returns
  have hts := atoms_spec (ws := wsX7_remove) B.pre
  have hown : s.vm.findClass RX7 = some m.cls := findClass_of_methodNamed B.named
  have hlocks := B.notSynchronized
  have hl := lv_entry ([.ref M, .int p1, .int p2, .int o]) (n := 4) (Nat.le_of_ble_eq_true rfl)
  rw [lg_entry_eq]
  generalize (lg_sl ([.ref M, .int p1, .int p2, .int o]) ++ List.replicate (4 - (lg_sl ([.ref M, .int p1, .int p2, .int o])).length) Slot.unset).toArray = ls at hl ⊢
  have hl : lv_has ls 4 [(0, .ref M), (1, .int p1), (2, .int p2), (3, .int o)] := hl
  have hM : MR D cA A M ad σ s.heap := hI
  have h7 : ∀ w ∈ wsX70, w ∈ wsX7_remove := fun _ h => List.mem_cons_of_mem _ (List.mem_append_right _ h)
  have hS : va_S A s.heap s.heap [] := va_S.rf
  refine lv_aload_n hx hb dX7_remove_0 rfl (lv_at hl 0 rfl) ?_
  refine lv_aload_n hx hb dX7_remove_1 rfl (lv_at hl 0 rfl) ?_
  refine lv_iload_n hx hb dX7_remove_2 rfl (lv_at hl 1 rfl) ?_
  refine lv_iload_n hx hb dX7_remove_3 rfl (lv_at hl 2 rfl) ?_
  refine lv_iconst (v := 1) hx hb dX7_remove_4 (by decide) ?_
  refine lv_iload_n hx hb dX7_remove_5 rfl (lv_at hl 3 rfl) ?_
  refine lv_iconst (v := 0) hx hb dX7_remove_6 (by decide) ?_
  refine xr_call (va_runV (As := [.int p1, .int p2, .int 1, .int o, .int 0]) (rest := [.ref M]) ⟨hx, hb, hml, hown, hts⟩ (c_X7_wrong l D cA A M ad σ p1 p2 true o false nL hL hL2) (cwV 5 hts gX7_remove_X7_wrong rfl rfl rfl (by decide +kernel) ⟨Nat.le_of_ble_eq_true rfl, Nat.le_of_ble_eq_true rfl⟩) (xPV hK hM.1 rfl hM) rfl rfl hl.1 rfl (lv_room (Nat.le_of_ble_eq_true rfl)) dX7_remove_7 ⟨Nat.le_of_ble_eq_true rfl, Nat.le_of_ble_eq_true rfl⟩) ?_
  refine xw_calls (va_runV (As := [.int (wrF σ nL p1 p2 true o false)]) (rest := []) ⟨hx, hb, hml, hown, hts⟩ (c_X7_goes l D cA A M ad σ (wrF σ nL p1 p2 true o false)) (cwV 1 hts gX7_remove_X7_goes rfl rfl rfl (by decide +kernel) ⟨Nat.le_of_ble_eq_true rfl, Nat.le_of_ble_eq_true rfl⟩) (xPV hK hM.1 rfl hM) rfl rfl hl.1 rfl (lv_room (Nat.le_of_ble_eq_true rfl)) dX7_remove_10 ⟨Nat.le_of_ble_eq_true rfl, Nat.le_of_ble_eq_true rfl⟩) hS (fun _ _ h => h) (fun _ h => h) (fun H locs hM _ _ hS => ?_)
  refine xb_ne (tgt := 18) hx hb dX7_remove_13 (by decide) (fun c_1 => ?_) (fun c_1 => ?_)
  · have z_c_1 := gz_t c_1
    obtain ⟨y1_c_1, y2_c_1, y3_c_1, y4_c_1⟩ := wrF_0 z_c_1
    obtain ⟨j_p1, hj_p1, rfl⟩ := okN_of (by omega) y1_c_1
    obtain ⟨j_p2, hj_p2, rfl⟩ := okS_of y2_c_1
    have ecl : cl (nI j_p1) (nI j_p2) = 16 * j_p1 + j_p2 := cl_nI (by omega) hj_p2
    refine lv_aload_n hx hb dX7_remove_18 rfl (lv_at hl 0 rfl) ?_
    refine lv_aload_n hx hb dX7_remove_19 rfl (lv_at hl 0 rfl) ?_
    refine m_get (v := .ref (ad 7)) hx hb hts h7 hown hK hM 7 (by decide) (hts (.fieldLink RX7 25 "ConfigBeaconModel" "entries" "[I") (by decide +kernel)) rfl dX7_remove_20 ?_
    refine lv_iload_n hx hb dX7_remove_23 rfl (lv_at hl 1 rfl) ?_
    refine lv_iload_n hx hb dX7_remove_24 rfl (lv_at hl 2 rfl) ?_
    refine xr_call (va_runS (As := [.int (nI j_p1), .int (nI j_p2)]) (rest := [.ref (ad 7), .ref M]) ⟨hx, hb, hml, hown, hts⟩ (c_X7_cell l D cA j_p1 j_p2) (va_cwS 2 hts gX7_remove_X7_cell rfl rfl rfl (by decide +kernel) ⟨Nat.le_of_ble_eq_true rfl, Nat.le_of_ble_eq_true rfl⟩) (xPS hK trivial) rfl rfl hl.1 rfl (lv_room (Nat.le_of_ble_eq_true rfl)) dX7_remove_25 ⟨Nat.le_of_ble_eq_true rfl, Nat.le_of_ble_eq_true rfl⟩) ?_
    refine m_ald hx hb hK hM 7 (by decide) (n := 128) rfl (16 * j_p1 + j_p2) rfl (by omega) (by decide) dX7_remove_28 (v := (σ.2.1 7 (16 * j_p1 + j_p2))) rfl ?_
    refine lv_if_ne (tgt := 36) hx hb dX7_remove_29 (by decide) (fun c_2 => ?_) (fun c_2 => ?_)
    · refine lv_iconst (v := 0) hx hb dX7_remove_36 (by decide) ?_
      refine xw_calls (va_runV (As := [.int 0]) (rest := []) ⟨hx, hb, hml, hown, hts⟩ (c_X7_goes l D cA A M ad (sg σ 25 (wrF σ nL (nI j_p1) (nI j_p2) true o false)) 0) (cwV 1 hts gX7_remove_X7_goes rfl rfl rfl (by decide +kernel) ⟨Nat.le_of_ble_eq_true rfl, Nat.le_of_ble_eq_true rfl⟩) (xPV hK hM.1 rfl hM) rfl rfl hl.1 rfl (lv_room (Nat.le_of_ble_eq_true rfl)) dX7_remove_37 ⟨Nat.le_of_ble_eq_true rfl, Nat.le_of_ble_eq_true rfl⟩) hS (fun _ _ h => h) (fun _ h => h) (fun H locs hM _ _ hS => ?_)
      refine xb_eq (tgt := 56) hx hb dX7_remove_40 (by decide) (fun c_3 => absurd c_3 (by decide)) (fun _ => ?_)
      refine lv_aload_n hx hb dX7_remove_43 rfl (lv_at hl 0 rfl) ?_
      refine lv_iload_n hx hb dX7_remove_44 rfl (lv_at hl 1 rfl) ?_
      refine lv_iload_n hx hb dX7_remove_45 rfl (lv_at hl 2 rfl) ?_
      refine xr_call (va_runS (As := [.int (nI j_p1), .int (nI j_p2)]) (rest := [.ref M]) ⟨hx, hb, hml, hown, hts⟩ (c_X7_cell l D cA j_p1 j_p2) (va_cwS 2 hts gX7_remove_X7_cell rfl rfl rfl (by decide +kernel) ⟨Nat.le_of_ble_eq_true rfl, Nat.le_of_ble_eq_true rfl⟩) (xPS hK trivial) rfl rfl hl.1 rfl (lv_room (Nat.le_of_ble_eq_true rfl)) dX7_remove_46 ⟨Nat.le_of_ble_eq_true rfl, Nat.le_of_ble_eq_true rfl⟩) ?_
      refine lv_iconst (v := 0) hx hb dX7_remove_49 (by decide) ?_
      refine xw_calls (va_runV (As := [.int (nI (16 * j_p1 + j_p2)), .int 0]) (rest := []) ⟨hx, hb, hml, hown, hts⟩ (c_X7_puts l D cA A M ad (sg (sg σ 25 (wrF σ nL (nI j_p1) (nI j_p2) true o false)) 25 0) (16 * j_p1 + j_p2) 0 (by omega) nV hV hV2) (cwV 2 hts gX7_remove_X7_puts rfl rfl rfl (by decide +kernel) ⟨Nat.le_of_ble_eq_true rfl, Nat.le_of_ble_eq_true rfl⟩) (xPV hK hM.1 rfl hM) rfl rfl hl.1 rfl (lv_room (Nat.le_of_ble_eq_true rfl)) dX7_remove_50 ⟨Nat.le_of_ble_eq_true rfl, Nat.le_of_ble_eq_true rfl⟩) hS (fun _ _ h => h) (fun _ h => h) (fun H locs hM _ _ hS => ?_)
      refine lv_goto (tgt := 57) hx hb dX7_remove_53 (by decide) ?_
      exact xw_iret hx hb hr hlocks hS (mJ_ok hM (by rw [kRm, if_pos z_c_1, ecl]; simp [c_2]) ((putS_25 _ _ _ _).trans rfl) (by rw [ecl]; exact ⟨rfl, PE_put ((PE.rf.sg 25 _ (by decide)).sg 25 _ (by decide)) nV (16 * j_p1 + j_p2) _⟩)) (Nat.le_refl _) (Nat.le_refl _) dX7_remove_57
    · refine lv_iconst (v := 3) hx hb dX7_remove_32 (by decide) ?_
      refine lv_goto (tgt := 37) hx hb dX7_remove_33 (by decide) ?_
      refine xw_calls (va_runV (As := [.int 3]) (rest := []) ⟨hx, hb, hml, hown, hts⟩ (c_X7_goes l D cA A M ad (sg σ 25 (wrF σ nL (nI j_p1) (nI j_p2) true o false)) 3) (cwV 1 hts gX7_remove_X7_goes rfl rfl rfl (by decide +kernel) ⟨Nat.le_of_ble_eq_true rfl, Nat.le_of_ble_eq_true rfl⟩) (xPV hK hM.1 rfl hM) rfl rfl hl.1 rfl (lv_room (Nat.le_of_ble_eq_true rfl)) dX7_remove_37 ⟨Nat.le_of_ble_eq_true rfl, Nat.le_of_ble_eq_true rfl⟩) hS (fun _ _ h => h) (fun _ h => h) (fun H locs hM _ _ hS => ?_)
      refine xb_eq (tgt := 56) hx hb dX7_remove_40 (by decide) (fun _ => ?_) (fun c_4 => absurd c_4 (by decide))
      refine lv_iconst (v := 0) hx hb dX7_remove_56 (by decide) ?_
      exact xw_iret hx hb hr hlocks hS (mJ_no (w := 3) hM (by rw [kRm, if_pos z_c_1, ecl]; simp [c_2]) (by decide) rfl ((PE.rf.sg 25 _ (by decide)).sg 25 _ (by decide))) (Nat.le_refl _) (Nat.le_refl _) dX7_remove_57
  · have z_c_1 : ¬ (wrF σ nL p1 p2 true o false) = 0 := fun q => by simp [gz, q] at c_1
    refine lv_iconst (v := 0) hx hb dX7_remove_16 (by decide) ?_
    exact xw_iret hx hb hr hlocks hS (mJ_no hM (by rw [kRm, if_neg z_c_1]) z_c_1 rfl (PE.rf.sg 25 _ (by decide))) (Nat.le_refl _) (Nat.le_refl _) dX7_remove_17
set_option maxHeartbeats 4000000 in
set_option maxRecDepth 100000 in
theorem c_X7_asksCell (l : Launch) (D : va_G) (cA : Nat → ClassId) (A : Nat → Prop) (M : Nat) (ad : Nat → Nat) (σ : MS) (p1 : Int32) (p2 : Int32) (nL : Nat) (hL : σ.1 6 = nI nL) (hL2 : nL ≤ 8) : Met l yX7_asksCell wsX7_asksCell (rmK 3 0 0) (xP D cA [.ref M, .int p1, .int p2] (MR D cA A M ad σ)) (xW (xV (some (.int (bI (okN nL p1 && okS p2)))) (MR D cA A M ad (sg σ 25 (kCe nL p1 p2)))) A) 0 0 A := by
  refine Met.ofW (cc := cX7_asksCell) (maxL := 3) (ret := (some .boolean)) (by decide) rfl ?_
  intro p e s m args below meth c s₁ B hml hv
  obtain ⟨rfl, hK, hI⟩ := hv
  have hx := B.exec
  have hb := B.bytes
  have hr := B.returns
  have hts := atoms_spec (ws := wsX7_asksCell) B.pre
  have hown : s.vm.findClass RX7 = some m.cls := findClass_of_methodNamed B.named
  have hlocks := B.notSynchronized
  have hl := lv_entry ([.ref M, .int p1, .int p2]) (n := 3) (Nat.le_of_ble_eq_true rfl)
  rw [lg_entry_eq]
  generalize (lg_sl ([.ref M, .int p1, .int p2]) ++ List.replicate (3 - (lg_sl ([.ref M, .int p1, .int p2])).length) Slot.unset).toArray = ls at hl ⊢
  have hl : lv_has ls 3 [(0, .ref M), (1, .int p1), (2, .int p2)] := hl
  have hM : MR D cA A M ad σ s.heap := hI
  have h7 : ∀ w ∈ wsX70, w ∈ wsX7_asksCell := fun _ h => List.mem_cons_of_mem _ (List.mem_append_right _ h)
  have hS : va_S A s.heap s.heap [] := va_S.rf
  refine lv_aload_n hx hb dX7_asksCell_0 rfl (lv_at hl 0 rfl) ?_
  refine lv_aload_n hx hb dX7_asksCell_1 rfl (lv_at hl 0 rfl) ?_
  refine lv_iload_n hx hb dX7_asksCell_2 rfl (lv_at hl 1 rfl) ?_
  refine xr_call (va_runV (As := [.int p1]) (rest := [.ref M]) ⟨hx, hb, hml, hown, hts⟩ (c_X7_isLayer l D cA A M ad σ p1 nL hL (by omega)) (cwV 1 hts gX7_asksCell_X7_isLayer rfl rfl rfl (by decide +kernel) ⟨Nat.le_of_ble_eq_true rfl, Nat.le_of_ble_eq_true rfl⟩) (xPV hK hM.1 rfl hM) rfl rfl hl.1 rfl (lv_room (Nat.le_of_ble_eq_true rfl)) dX7_asksCell_3 ⟨Nat.le_of_ble_eq_true rfl, Nat.le_of_ble_eq_true rfl⟩) ?_
  refine xb_eq (tgt := 20) hx hb dX7_asksCell_6 (by decide) (fun c_1 => ?_) (fun c_1 => ?_)
  · refine lv_iconst (v := 1) hx hb dX7_asksCell_20 (by decide) ?_
    refine xw_calls (va_runV (As := [.int 1]) (rest := []) ⟨hx, hb, hml, hown, hts⟩ (c_X7_goes l D cA A M ad σ 1) (cwV 1 hts gX7_asksCell_X7_goes rfl rfl rfl (by decide +kernel) ⟨Nat.le_of_ble_eq_true rfl, Nat.le_of_ble_eq_true rfl⟩) (xPV hK hM.1 rfl hM) rfl rfl hl.1 rfl (lv_room (Nat.le_of_ble_eq_true rfl)) dX7_asksCell_21 ⟨Nat.le_of_ble_eq_true rfl, Nat.le_of_ble_eq_true rfl⟩) hS (fun _ _ h => h) (fun _ h => h) (fun H locs hM _ _ hS => ?_)
    exact xw_zret hx hb hr hlocks (b := false) rfl hS ⟨by simp [c_1], by rw [show kCe nL p1 p2 = 1 from by simp [kCe, c_1]]; exact hM⟩ (Nat.le_refl _) (Nat.le_refl _) dX7_asksCell_24
  · obtain ⟨j_p1, hj_p1, rfl⟩ := okN_of (by omega) c_1
    refine lv_iload_n hx hb dX7_asksCell_9 rfl (lv_at hl 2 rfl) ?_
    refine xr_call (va_runS (As := [.int p2]) (rest := [.ref M]) ⟨hx, hb, hml, hown, hts⟩ (c_X7_isSetting l D cA p2) (va_cwS 1 hts gX7_asksCell_X7_isSetting rfl rfl rfl (by decide +kernel) ⟨Nat.le_of_ble_eq_true rfl, Nat.le_of_ble_eq_true rfl⟩) (xPS hK trivial) rfl rfl hl.1 rfl (lv_room (Nat.le_of_ble_eq_true rfl)) dX7_asksCell_10 ⟨Nat.le_of_ble_eq_true rfl, Nat.le_of_ble_eq_true rfl⟩) ?_
    refine xb_eq (tgt := 20) hx hb dX7_asksCell_13 (by decide) (fun c_2 => ?_) (fun c_2 => ?_)
    · refine lv_iconst (v := 1) hx hb dX7_asksCell_20 (by decide) ?_
      refine xw_calls (va_runV (As := [.int 1]) (rest := []) ⟨hx, hb, hml, hown, hts⟩ (c_X7_goes l D cA A M ad σ 1) (cwV 1 hts gX7_asksCell_X7_goes rfl rfl rfl (by decide +kernel) ⟨Nat.le_of_ble_eq_true rfl, Nat.le_of_ble_eq_true rfl⟩) (xPV hK hM.1 rfl hM) rfl rfl hl.1 rfl (lv_room (Nat.le_of_ble_eq_true rfl)) dX7_asksCell_21 ⟨Nat.le_of_ble_eq_true rfl, Nat.le_of_ble_eq_true rfl⟩) hS (fun _ _ h => h) (fun _ h => h) (fun H locs hM _ _ hS => ?_)
      exact xw_zret hx hb hr hlocks (b := false) rfl hS ⟨by simp [c_1, c_2], by rw [show kCe nL (nI j_p1) p2 = 1 from by simp [kCe, c_1, c_2]]; exact hM⟩ (Nat.le_refl _) (Nat.le_refl _) dX7_asksCell_24
    · obtain ⟨j_p2, hj_p2, rfl⟩ := okS_of c_2
      refine lv_iconst (v := 0) hx hb dX7_asksCell_16 (by decide) ?_
      refine lv_goto (tgt := 21) hx hb dX7_asksCell_17 (by decide) ?_
      refine xw_calls (va_runV (As := [.int 0]) (rest := []) ⟨hx, hb, hml, hown, hts⟩ (c_X7_goes l D cA A M ad σ 0) (cwV 1 hts gX7_asksCell_X7_goes rfl rfl rfl (by decide +kernel) ⟨Nat.le_of_ble_eq_true rfl, Nat.le_of_ble_eq_true rfl⟩) (xPV hK hM.1 rfl hM) rfl rfl hl.1 rfl (lv_room (Nat.le_of_ble_eq_true rfl)) dX7_asksCell_21 ⟨Nat.le_of_ble_eq_true rfl, Nat.le_of_ble_eq_true rfl⟩) hS (fun _ _ h => h) (fun _ h => h) (fun H locs hM _ _ hS => ?_)
      exact xw_zret hx hb hr hlocks (b := true) rfl hS ⟨by simp [c_1, c_2], by rw [show kCe nL (nI j_p1) (nI j_p2) = 0 from by simp [kCe, c_1, c_2]]; exact hM⟩ (Nat.le_refl _) (Nat.le_refl _) dX7_asksCell_24
set_option maxHeartbeats 4000000 in
set_option maxRecDepth 100000 in
theorem c_X7_has (l : Launch) (D : va_G) (cA : Nat → ClassId) (A : Nat → Prop) (M : Nat) (ad : Nat → Nat) (σ : MS) (p1 : Int32) (p2 : Int32) (nL : Nat) (hL : σ.1 6 = nI nL) (hL2 : nL ≤ 8) : Met l yX7_has wsX7_has (rmK 4 0 0) (xP D cA [.ref M, .int p1, .int p2] (MR D cA A M ad σ)) (xW (mJ D cA A M ad σ (kCe nL p1 p2) (fun r τ => r = some (.int (bI (decide (0 < σ.2.1 7 (cl p1 p2))))) ∧ PE τ σ)) A) 0 0 A := by
  refine Met.ofW (cc := cX7_has) (maxL := 3) (ret := (some .boolean)) (by decide) rfl ?_
  intro p e s m args below meth c s₁ B hml hv
  obtain ⟨rfl, hK, hI⟩ := hv
  have hx := B.exec
  have hb := B.bytes
  have hr := B.returns
  have hts := atoms_spec (ws := wsX7_has) B.pre
  have hown : s.vm.findClass RX7 = some m.cls := findClass_of_methodNamed B.named
  have hlocks := B.notSynchronized
  have hl := lv_entry ([.ref M, .int p1, .int p2]) (n := 3) (Nat.le_of_ble_eq_true rfl)
  rw [lg_entry_eq]
  generalize (lg_sl ([.ref M, .int p1, .int p2]) ++ List.replicate (3 - (lg_sl ([.ref M, .int p1, .int p2])).length) Slot.unset).toArray = ls at hl ⊢
  have hl : lv_has ls 3 [(0, .ref M), (1, .int p1), (2, .int p2)] := hl
  have hM : MR D cA A M ad σ s.heap := hI
  have h7 : ∀ w ∈ wsX70, w ∈ wsX7_has := fun _ h => List.mem_cons_of_mem _ (List.mem_append_right _ h)
  have hS : va_S A s.heap s.heap [] := va_S.rf
  refine lv_aload_n hx hb dX7_has_0 rfl (lv_at hl 0 rfl) ?_
  refine lv_iload_n hx hb dX7_has_1 rfl (lv_at hl 1 rfl) ?_
  refine lv_iload_n hx hb dX7_has_2 rfl (lv_at hl 2 rfl) ?_
  refine xw_calls (va_runV (As := [.int p1, .int p2]) (rest := []) ⟨hx, hb, hml, hown, hts⟩ (c_X7_asksCell l D cA A M ad σ p1 p2 nL hL hL2) (cwV 2 hts gX7_has_X7_asksCell rfl rfl rfl (by decide +kernel) ⟨Nat.le_of_ble_eq_true rfl, Nat.le_of_ble_eq_true rfl⟩) (xPV hK hM.1 rfl hM) rfl rfl hl.1 rfl (lv_room (Nat.le_of_ble_eq_true rfl)) dX7_has_3 ⟨Nat.le_of_ble_eq_true rfl, Nat.le_of_ble_eq_true rfl⟩) hS (fun _ _ h => h) (fun _ h => h) (fun H locs hM _ _ hS => ?_)
  refine xb_eq (tgt := 26) hx hb dX7_has_6 (by decide) (fun c_1 => ?_) (fun c_1 => ?_)
  · have y_c_1 : ¬ kCe nL p1 p2 = 0 := by rw [kCe, c_1]; decide
    refine lv_iconst (v := 0) hx hb dX7_has_26 (by decide) ?_
    exact xw_zret hx hb hr hlocks (b := false) rfl hS (mJ_no hM rfl y_c_1 rfl (PE.rf.sg 25 _ (by decide))) (Nat.le_refl _) (Nat.le_refl _) dX7_has_27
  · have z_c_1 : okN nL p1 = true ∧ okS p2 = true := by simpa using c_1
    have y_c_1 : kCe nL p1 p2 = 0 := by rw [kCe, if_pos c_1]
    obtain ⟨j_p1, hj_p1, rfl⟩ := okN_of (by omega) z_c_1.1
    obtain ⟨j_p2, hj_p2, rfl⟩ := okS_of z_c_1.2
    have ecl : cl (nI j_p1) (nI j_p2) = 16 * j_p1 + j_p2 := cl_nI (by omega) hj_p2
    refine lv_aload_n hx hb dX7_has_9 rfl (lv_at hl 0 rfl) ?_
    refine m_get (v := .ref (ad 7)) hx hb hts h7 hown hK hM 7 (by decide) (hts (.fieldLink RX7 25 "ConfigBeaconModel" "entries" "[I") (by decide +kernel)) rfl dX7_has_10 ?_
    refine lv_iload_n hx hb dX7_has_13 rfl (lv_at hl 1 rfl) ?_
    refine lv_iload_n hx hb dX7_has_14 rfl (lv_at hl 2 rfl) ?_
    refine xr_call (va_runS (As := [.int (nI j_p1), .int (nI j_p2)]) (rest := [.ref (ad 7)]) ⟨hx, hb, hml, hown, hts⟩ (c_X7_cell l D cA j_p1 j_p2) (va_cwS 2 hts gX7_has_X7_cell rfl rfl rfl (by decide +kernel) ⟨Nat.le_of_ble_eq_true rfl, Nat.le_of_ble_eq_true rfl⟩) (xPS hK trivial) rfl rfl hl.1 rfl (lv_room (Nat.le_of_ble_eq_true rfl)) dX7_has_15 ⟨Nat.le_of_ble_eq_true rfl, Nat.le_of_ble_eq_true rfl⟩) ?_
    refine m_ald hx hb hK hM 7 (by decide) (n := 128) rfl (16 * j_p1 + j_p2) rfl (by omega) (by decide) dX7_has_18 (v := (σ.2.1 7 (16 * j_p1 + j_p2))) rfl ?_
    refine lv_if_le (tgt := 26) hx hb dX7_has_19 (by decide) (fun c_2 => ?_) (fun c_2 => ?_)
    · refine lv_iconst (v := 0) hx hb dX7_has_26 (by decide) ?_
      exact xw_zret hx hb hr hlocks (b := false) rfl hS (mJ_ok hM y_c_1 y_c_1 (by rw [ecl]; exact ⟨by simp [bI, c_2, Int32.not_lt.mpr c_2], PE.rf.sg 25 _ (by decide)⟩)) (Nat.le_refl _) (Nat.le_refl _) dX7_has_27
    · refine lv_iconst (v := 1) hx hb dX7_has_22 (by decide) ?_
      refine lv_goto (tgt := 27) hx hb dX7_has_23 (by decide) ?_
      exact xw_zret hx hb hr hlocks (b := true) rfl hS (mJ_ok hM y_c_1 y_c_1 (by rw [ecl]; exact ⟨by simp [bI, c_2, Int32.not_le.mp c_2], PE.rf.sg 25 _ (by decide)⟩)) (Nat.le_refl _) (Nat.le_refl _) dX7_has_27
set_option maxHeartbeats 4000000 in
set_option maxRecDepth 100000 in
theorem c_X7_shareOf (l : Launch) (D : va_G) (cA : Nat → ClassId) (A : Nat → Prop) (M : Nat) (ad : Nat → Nat) (σ : MS) (p1 : Int32) (p2 : Int32) (nL : Nat) (hL : σ.1 6 = nI nL) (hL2 : nL ≤ 8) : Met l yX7_shareOf wsX7_shareOf (rmK 4 0 0) (xP D cA [.ref M, .int p1, .int p2] (MR D cA A M ad σ)) (xW (mJ D cA A M ad σ (kCe nL p1 p2) (fun r τ => r = some (.int (σ.2.1 10 (cl p1 p2))) ∧ PE τ σ)) A) 0 0 A := by
  refine Met.ofW (cc := cX7_shareOf) (maxL := 3) (ret := (some .int)) (by decide) rfl ?_
  intro p e s m args below meth c s₁ B hml hv
  obtain ⟨rfl, hK, hI⟩ := hv
  have hx := B.exec
  have hb := B.bytes
  have hr := B.returns
  have hts := atoms_spec (ws := wsX7_shareOf) B.pre
  have hown : s.vm.findClass RX7 = some m.cls := findClass_of_methodNamed B.named
  have hlocks := B.notSynchronized
  have hl := lv_entry ([.ref M, .int p1, .int p2]) (n := 3) (Nat.le_of_ble_eq_true rfl)
  rw [lg_entry_eq]
  generalize (lg_sl ([.ref M, .int p1, .int p2]) ++ List.replicate (3 - (lg_sl ([.ref M, .int p1, .int p2])).length) Slot.unset).toArray = ls at hl ⊢
  have hl : lv_has ls 3 [(0, .ref M), (1, .int p1), (2, .int p2)] := hl
  have hM : MR D cA A M ad σ s.heap := hI
  have h7 : ∀ w ∈ wsX70, w ∈ wsX7_shareOf := fun _ h => List.mem_cons_of_mem _ (List.mem_append_right _ h)
  have hS : va_S A s.heap s.heap [] := va_S.rf
  refine lv_aload_n hx hb dX7_shareOf_0 rfl (lv_at hl 0 rfl) ?_
  refine lv_iload_n hx hb dX7_shareOf_1 rfl (lv_at hl 1 rfl) ?_
  refine lv_iload_n hx hb dX7_shareOf_2 rfl (lv_at hl 2 rfl) ?_
  refine xw_calls (va_runV (As := [.int p1, .int p2]) (rest := []) ⟨hx, hb, hml, hown, hts⟩ (c_X7_asksCell l D cA A M ad σ p1 p2 nL hL hL2) (cwV 2 hts gX7_shareOf_X7_asksCell rfl rfl rfl (by decide +kernel) ⟨Nat.le_of_ble_eq_true rfl, Nat.le_of_ble_eq_true rfl⟩) (xPV hK hM.1 rfl hM) rfl rfl hl.1 rfl (lv_room (Nat.le_of_ble_eq_true rfl)) dX7_shareOf_3 ⟨Nat.le_of_ble_eq_true rfl, Nat.le_of_ble_eq_true rfl⟩) hS (fun _ _ h => h) (fun _ h => h) (fun H locs hM _ _ hS => ?_)
  refine xb_eq (tgt := 22) hx hb dX7_shareOf_6 (by decide) (fun c_1 => ?_) (fun c_1 => ?_)
  · have y_c_1 : ¬ kCe nL p1 p2 = 0 := by rw [kCe, c_1]; decide
    refine lv_iconst (v := 0) hx hb dX7_shareOf_22 (by decide) ?_
    exact xw_iret hx hb hr hlocks hS (mJ_no hM rfl y_c_1 rfl (PE.rf.sg 25 _ (by decide))) (Nat.le_refl _) (Nat.le_refl _) dX7_shareOf_23
  · have z_c_1 : okN nL p1 = true ∧ okS p2 = true := by simpa using c_1
    have y_c_1 : kCe nL p1 p2 = 0 := by rw [kCe, if_pos c_1]
    obtain ⟨j_p1, hj_p1, rfl⟩ := okN_of (by omega) z_c_1.1
    obtain ⟨j_p2, hj_p2, rfl⟩ := okS_of z_c_1.2
    have ecl : cl (nI j_p1) (nI j_p2) = 16 * j_p1 + j_p2 := cl_nI (by omega) hj_p2
    refine lv_aload_n hx hb dX7_shareOf_9 rfl (lv_at hl 0 rfl) ?_
    refine m_get (v := .ref (ad 10)) hx hb hts h7 hown hK hM 10 (by decide) (hts (.fieldLink RX7 34 "ConfigBeaconModel" "shares" "[I") (by decide +kernel)) rfl dX7_shareOf_10 ?_
    refine lv_iload_n hx hb dX7_shareOf_13 rfl (lv_at hl 1 rfl) ?_
    refine lv_iload_n hx hb dX7_shareOf_14 rfl (lv_at hl 2 rfl) ?_
    refine xr_call (va_runS (As := [.int (nI j_p1), .int (nI j_p2)]) (rest := [.ref (ad 10)]) ⟨hx, hb, hml, hown, hts⟩ (c_X7_cell l D cA j_p1 j_p2) (va_cwS 2 hts gX7_shareOf_X7_cell rfl rfl rfl (by decide +kernel) ⟨Nat.le_of_ble_eq_true rfl, Nat.le_of_ble_eq_true rfl⟩) (xPS hK trivial) rfl rfl hl.1 rfl (lv_room (Nat.le_of_ble_eq_true rfl)) dX7_shareOf_15 ⟨Nat.le_of_ble_eq_true rfl, Nat.le_of_ble_eq_true rfl⟩) ?_
    refine m_ald hx hb hK hM 10 (by decide) (n := 128) rfl (16 * j_p1 + j_p2) rfl (by omega) (by decide) dX7_shareOf_18 (v := (σ.2.1 10 (16 * j_p1 + j_p2))) rfl ?_
    refine lv_goto (tgt := 23) hx hb dX7_shareOf_19 (by decide) ?_
    exact xw_iret hx hb hr hlocks hS (mJ_ok hM y_c_1 y_c_1 (by rw [ecl]; exact ⟨rfl, PE.rf.sg 25 _ (by decide)⟩)) (Nat.le_refl _) (Nat.le_refl _) dX7_shareOf_23
set_option maxHeartbeats 4000000 in
set_option maxRecDepth 100000 in
theorem c_X7_changedAt (l : Launch) (D : va_G) (cA : Nat → ClassId) (A : Nat → Prop) (M : Nat) (ad : Nat → Nat) (σ : MS) (p1 : Int32) (p2 : Int32) (nL : Nat) (hL : σ.1 6 = nI nL) (hL2 : nL ≤ 8) : Met l yX7_changedAt wsX7_changedAt (rmK 4 0 0) (xP D cA [.ref M, .int p1, .int p2] (MR D cA A M ad σ)) (xW (mJ D cA A M ad σ (kCe nL p1 p2) (fun r τ => r = some (.int (σ.2.1 8 (cl p1 p2))) ∧ PE τ σ)) A) 0 0 A := by
  refine Met.ofW (cc := cX7_changedAt) (maxL := 3) (ret := (some .int)) (by decide) rfl ?_
  intro p e s m args below meth c s₁ B hml hv
  obtain ⟨rfl, hK, hI⟩ := hv
  have hx := B.exec
  have hb := B.bytes
  have hr := B.returns
  have hts := atoms_spec (ws := wsX7_changedAt) B.pre
  have hown : s.vm.findClass RX7 = some m.cls := findClass_of_methodNamed B.named
  have hlocks := B.notSynchronized
  have hl := lv_entry ([.ref M, .int p1, .int p2]) (n := 3) (Nat.le_of_ble_eq_true rfl)
  rw [lg_entry_eq]
  generalize (lg_sl ([.ref M, .int p1, .int p2]) ++ List.replicate (3 - (lg_sl ([.ref M, .int p1, .int p2])).length) Slot.unset).toArray = ls at hl ⊢
  have hl : lv_has ls 3 [(0, .ref M), (1, .int p1), (2, .int p2)] := hl
  have hM : MR D cA A M ad σ s.heap := hI
  have h7 : ∀ w ∈ wsX70, w ∈ wsX7_changedAt := fun _ h => List.mem_cons_of_mem _ (List.mem_append_right _ h)
  have hS : va_S A s.heap s.heap [] := va_S.rf
  refine lv_aload_n hx hb dX7_changedAt_0 rfl (lv_at hl 0 rfl) ?_
  refine lv_iload_n hx hb dX7_changedAt_1 rfl (lv_at hl 1 rfl) ?_
  refine lv_iload_n hx hb dX7_changedAt_2 rfl (lv_at hl 2 rfl) ?_
  refine xw_calls (va_runV (As := [.int p1, .int p2]) (rest := []) ⟨hx, hb, hml, hown, hts⟩ (c_X7_asksCell l D cA A M ad σ p1 p2 nL hL hL2) (cwV 2 hts gX7_changedAt_X7_asksCell rfl rfl rfl (by decide +kernel) ⟨Nat.le_of_ble_eq_true rfl, Nat.le_of_ble_eq_true rfl⟩) (xPV hK hM.1 rfl hM) rfl rfl hl.1 rfl (lv_room (Nat.le_of_ble_eq_true rfl)) dX7_changedAt_3 ⟨Nat.le_of_ble_eq_true rfl, Nat.le_of_ble_eq_true rfl⟩) hS (fun _ _ h => h) (fun _ h => h) (fun H locs hM _ _ hS => ?_)
  refine xb_eq (tgt := 22) hx hb dX7_changedAt_6 (by decide) (fun c_1 => ?_) (fun c_1 => ?_)
  · have y_c_1 : ¬ kCe nL p1 p2 = 0 := by rw [kCe, c_1]; decide
    refine lv_iconst (v := 0) hx hb dX7_changedAt_22 (by decide) ?_
    exact xw_iret hx hb hr hlocks hS (mJ_no hM rfl y_c_1 rfl (PE.rf.sg 25 _ (by decide))) (Nat.le_refl _) (Nat.le_refl _) dX7_changedAt_23
  · have z_c_1 : okN nL p1 = true ∧ okS p2 = true := by simpa using c_1
    have y_c_1 : kCe nL p1 p2 = 0 := by rw [kCe, if_pos c_1]
    obtain ⟨j_p1, hj_p1, rfl⟩ := okN_of (by omega) z_c_1.1
    obtain ⟨j_p2, hj_p2, rfl⟩ := okS_of z_c_1.2
    have ecl : cl (nI j_p1) (nI j_p2) = 16 * j_p1 + j_p2 := cl_nI (by omega) hj_p2
    refine lv_aload_n hx hb dX7_changedAt_9 rfl (lv_at hl 0 rfl) ?_
    refine m_get (v := .ref (ad 8)) hx hb hts h7 hown hK hM 8 (by decide) (hts (.fieldLink RX7 28 "ConfigBeaconModel" "changes" "[I") (by decide +kernel)) rfl dX7_changedAt_10 ?_
    refine lv_iload_n hx hb dX7_changedAt_13 rfl (lv_at hl 1 rfl) ?_
    refine lv_iload_n hx hb dX7_changedAt_14 rfl (lv_at hl 2 rfl) ?_
    refine xr_call (va_runS (As := [.int (nI j_p1), .int (nI j_p2)]) (rest := [.ref (ad 8)]) ⟨hx, hb, hml, hown, hts⟩ (c_X7_cell l D cA j_p1 j_p2) (va_cwS 2 hts gX7_changedAt_X7_cell rfl rfl rfl (by decide +kernel) ⟨Nat.le_of_ble_eq_true rfl, Nat.le_of_ble_eq_true rfl⟩) (xPS hK trivial) rfl rfl hl.1 rfl (lv_room (Nat.le_of_ble_eq_true rfl)) dX7_changedAt_15 ⟨Nat.le_of_ble_eq_true rfl, Nat.le_of_ble_eq_true rfl⟩) ?_
    refine m_ald hx hb hK hM 8 (by decide) (n := 128) rfl (16 * j_p1 + j_p2) rfl (by omega) (by decide) dX7_changedAt_18 (v := (σ.2.1 8 (16 * j_p1 + j_p2))) rfl ?_
    refine lv_goto (tgt := 23) hx hb dX7_changedAt_19 (by decide) ?_
    exact xw_iret hx hb hr hlocks hS (mJ_ok hM y_c_1 y_c_1 (by rw [ecl]; exact ⟨rfl, PE.rf.sg 25 _ (by decide)⟩)) (Nat.le_refl _) (Nat.le_refl _) dX7_changedAt_23
set_option maxHeartbeats 4000000 in
set_option maxRecDepth 100000 in
theorem c_X7_rolls (l : Launch) (D : va_G) (cA : Nat → ClassId) (A : Nat → Prop) (M : Nat) (ad : Nat → Nat) (σ : MS) (k : Nat) (e9 : Int32) (hk : k < 128) : Met l yX7_rolls wsX7_rolls (rmK 0 0 0) (xP D cA [.ref M, .int (nI k), .int e9] (MR D cA A M ad σ)) (xW (xV none (MR D cA A M ad (rlS σ k e9))) A) 0 0 A := by
  refine Met.ofW (cc := cX7_rolls) (maxL := 3) (ret := none) (by decide) rfl ?_
  intro p e s m args below meth c s₁ B hml hv
  obtain ⟨rfl, hK, hI⟩ := hv
  have hx := B.exec
  have hb := B.bytes
  have hr := B.returns
  have hts := atoms_spec (ws := wsX7_rolls) B.pre
  have hown : s.vm.findClass RX7 = some m.cls := findClass_of_methodNamed B.named
  have hlocks := B.notSynchronized
  have hl := lv_entry ([.ref M, .int (nI k), .int e9]) (n := 3) (Nat.le_of_ble_eq_true rfl)
  rw [lg_entry_eq]
  generalize (lg_sl ([.ref M, .int (nI k), .int e9]) ++ List.replicate (3 - (lg_sl ([.ref M, .int (nI k), .int e9])).length) Slot.unset).toArray = ls at hl ⊢
  have hl : lv_has ls 3 [(0, .ref M), (1, .int (nI k)), (2, .int e9)] := hl
  have hM : MR D cA A M ad σ s.heap := hI
  have h7 : ∀ w ∈ wsX70, w ∈ wsX7_rolls := fun _ h => List.mem_cons_of_mem _ (List.mem_append_right _ h)
  have hS : va_S A s.heap s.heap [] := va_S.rf
  refine lv_aload_n hx hb dX7_rolls_0 rfl (lv_at hl 0 rfl) ?_
  refine m_get (v := .ref (ad 9)) hx hb hts h7 hown hK hM 9 (by decide) (hts (.fieldLink RX7 31 "ConfigBeaconModel" "rolled" "[I") (by decide +kernel)) rfl dX7_rolls_1 ?_
  refine lv_iload_n hx hb dX7_rolls_4 rfl (lv_at hl 1 rfl) ?_
  refine lv_iload_n hx hb dX7_rolls_5 rfl (lv_at hl 2 rfl) ?_
  refine m_ast hx hb hK hM hS 9 (by decide) (n := 128) rfl k rfl (by omega) (by decide) dX7_rolls_6 (fun H locs hM hS => ?_)
  refine lv_aload_n hx hb dX7_rolls_7 rfl (lv_at hl 0 rfl) ?_
  refine m_get (v := .ref (ad 10)) hx hb hts h7 hown hK hM 10 (by decide) (hts (.fieldLink RX7 34 "ConfigBeaconModel" "shares" "[I") (by decide +kernel)) rfl dX7_rolls_8 ?_
  refine lv_iload_n hx hb dX7_rolls_11 rfl (lv_at hl 1 rfl) ?_
  refine lv_iconst (v := 0) hx hb dX7_rolls_12 (by decide) ?_
  refine m_ast hx hb hK hM hS 10 (by decide) (n := 128) rfl k rfl (by omega) (by decide) dX7_rolls_13 (fun H locs hM hS => ?_)
  exact xw_vret hx hb hr hlocks hS ⟨rfl, hM⟩ (Nat.le_refl _) (Nat.le_refl _) dX7_rolls_14
set_option maxHeartbeats 4000000 in
set_option maxRecDepth 100000 in
theorem c_X7_roll (l : Launch) (D : va_G) (cA : Nat → ClassId) (A : Nat → Prop) (M : Nat) (ad : Nat → Nat) (σ : MS) (p1 : Int32) (p2 : Int32) (v : Int32) (o : Int32) (nL : Nat) (hL : σ.1 6 = nI nL) (hL2 : nL ≤ 8) : Met l yX7_roll wsX7_roll (rmK 4 0 0) (xP D cA [.ref M, .int p1, .int p2, .int v, .int o] (MR D cA A M ad σ)) (xW (mJ D cA A M ad σ (wrF σ nL p1 p2 (okB v) o false) (fun r τ => r = none ∧ PE τ (rlS σ (cl p1 p2) (enc v (-1) (-1))))) A) 0 0 A := by
  refine Met.ofW (cc := cX7_roll) (maxL := 5) (ret := none) (by decide) rfl ?_
  intro p e s m args below meth c s₁ B hml hv
  obtain ⟨rfl, hK, hI⟩ := hv
  have hx := B.exec
  have hb := B.bytes
  have hr := B.returns
  have hts := atoms_spec (ws := wsX7_roll) B.pre
  have hown : s.vm.findClass RX7 = some m.cls := findClass_of_methodNamed B.named
  have hlocks := B.notSynchronized
  have hl := lv_entry ([.ref M, .int p1, .int p2, .int v, .int o]) (n := 5) (Nat.le_of_ble_eq_true rfl)
  rw [lg_entry_eq]
  generalize (lg_sl ([.ref M, .int p1, .int p2, .int v, .int o]) ++ List.replicate (5 - (lg_sl ([.ref M, .int p1, .int p2, .int v, .int o])).length) Slot.unset).toArray = ls at hl ⊢
  have hl : lv_has ls 5 [(0, .ref M), (1, .int p1), (2, .int p2), (3, .int v), (4, .int o)] := hl
  have hM : MR D cA A M ad σ s.heap := hI
  have h7 : ∀ w ∈ wsX70, w ∈ wsX7_roll := fun _ h => List.mem_cons_of_mem _ (List.mem_append_right _ h)
  have hS : va_S A s.heap s.heap [] := va_S.rf
  refine lv_aload_n hx hb dX7_roll_0 rfl (lv_at hl 0 rfl) ?_
  refine lv_aload_n hx hb dX7_roll_1 rfl (lv_at hl 0 rfl) ?_
  refine lv_iload_n hx hb dX7_roll_2 rfl (lv_at hl 1 rfl) ?_
  refine lv_iload_n hx hb dX7_roll_3 rfl (lv_at hl 2 rfl) ?_
  refine lv_iload_n hx hb dX7_roll_4 rfl (lv_at hl 3 rfl) ?_
  refine xr_call (va_runS (As := [.int v]) (rest := [.int p2, .int p1, .ref M, .ref M]) ⟨hx, hb, hml, hown, hts⟩ (c_X7_isBase l D cA v) (va_cwS 1 hts gX7_roll_X7_isBase rfl rfl rfl (by decide +kernel) ⟨Nat.le_of_ble_eq_true rfl, Nat.le_of_ble_eq_true rfl⟩) (xPS hK trivial) rfl rfl hl.1 rfl (lv_room (Nat.le_of_ble_eq_true rfl)) dX7_roll_5 ⟨Nat.le_of_ble_eq_true rfl, Nat.le_of_ble_eq_true rfl⟩) ?_
  refine lv_iload hx hb dX7_roll_8 (lv_at hl 4 rfl) ?_
  refine lv_iconst (v := 0) hx hb dX7_roll_10 (by decide) ?_
  refine xr_call (va_runV (As := [.int p1, .int p2, .int (bI (okB v)), .int o, .int 0]) (rest := [.ref M]) ⟨hx, hb, hml, hown, hts⟩ (c_X7_wrong l D cA A M ad σ p1 p2 (okB v) o false nL hL hL2) (cwV 5 hts gX7_roll_X7_wrong rfl rfl rfl (by decide +kernel) ⟨Nat.le_of_ble_eq_true rfl, Nat.le_of_ble_eq_true rfl⟩) (xPV hK hM.1 rfl hM) rfl rfl hl.1 rfl (lv_room (Nat.le_of_ble_eq_true rfl)) dX7_roll_11 ⟨Nat.le_of_ble_eq_true rfl, Nat.le_of_ble_eq_true rfl⟩) ?_
  refine xw_calls (va_runV (As := [.int (wrF σ nL p1 p2 (okB v) o false)]) (rest := []) ⟨hx, hb, hml, hown, hts⟩ (c_X7_goes l D cA A M ad σ (wrF σ nL p1 p2 (okB v) o false)) (cwV 1 hts gX7_roll_X7_goes rfl rfl rfl (by decide +kernel) ⟨Nat.le_of_ble_eq_true rfl, Nat.le_of_ble_eq_true rfl⟩) (xPV hK hM.1 rfl hM) rfl rfl hl.1 rfl (lv_room (Nat.le_of_ble_eq_true rfl)) dX7_roll_14 ⟨Nat.le_of_ble_eq_true rfl, Nat.le_of_ble_eq_true rfl⟩) hS (fun _ _ h => h) (fun _ h => h) (fun H locs hM _ _ hS => ?_)
  refine xb_eq (tgt := 35) hx hb dX7_roll_17 (by decide) (fun c_1 => ?_) (fun c_1 => ?_)
  · have z_c_1 : ¬ (wrF σ nL p1 p2 (okB v) o false) = 0 := fun q => by simp [gz, q] at c_1
    exact xw_vret hx hb hr hlocks hS (mJ_no hM rfl z_c_1 rfl (PE.rf.sg 25 _ (by decide))) (Nat.le_refl _) (Nat.le_refl _) dX7_roll_35
  · have z_c_1 := gz_t c_1
    obtain ⟨y1_c_1, y2_c_1, y3_c_1, y4_c_1⟩ := wrF_0 z_c_1
    obtain ⟨j_p1, hj_p1, rfl⟩ := okN_of (by omega) y1_c_1
    obtain ⟨j_p2, hj_p2, rfl⟩ := okS_of y2_c_1
    have ecl : cl (nI j_p1) (nI j_p2) = 16 * j_p1 + j_p2 := cl_nI (by omega) hj_p2
    refine lv_aload_n hx hb dX7_roll_20 rfl (lv_at hl 0 rfl) ?_
    refine lv_iload_n hx hb dX7_roll_21 rfl (lv_at hl 1 rfl) ?_
    refine lv_iload_n hx hb dX7_roll_22 rfl (lv_at hl 2 rfl) ?_
    refine xr_call (va_runS (As := [.int (nI j_p1), .int (nI j_p2)]) (rest := [.ref M]) ⟨hx, hb, hml, hown, hts⟩ (c_X7_cell l D cA j_p1 j_p2) (va_cwS 2 hts gX7_roll_X7_cell rfl rfl rfl (by decide +kernel) ⟨Nat.le_of_ble_eq_true rfl, Nat.le_of_ble_eq_true rfl⟩) (xPS hK trivial) rfl rfl hl.1 rfl (lv_room (Nat.le_of_ble_eq_true rfl)) dX7_roll_23 ⟨Nat.le_of_ble_eq_true rfl, Nat.le_of_ble_eq_true rfl⟩) ?_
    refine lv_iload_n hx hb dX7_roll_26 rfl (lv_at hl 3 rfl) ?_
    refine lv_iconst (v := (-1)) hx hb dX7_roll_27 (by decide) ?_
    refine lv_iconst (v := (-1)) hx hb dX7_roll_28 (by decide) ?_
    refine xr_call (va_runS (As := [.int v, .int (-1), .int (-1)]) (rest := [.int (nI (16 * j_p1 + j_p2)), .ref M]) ⟨hx, hb, hml, hown, hts⟩ (c_X7_entry l D cA v (-1) (-1)) (va_cwS 3 hts gX7_roll_X7_entry rfl rfl rfl (by decide +kernel) ⟨Nat.le_of_ble_eq_true rfl, Nat.le_of_ble_eq_true rfl⟩) (xPS hK trivial) rfl rfl hl.1 rfl (lv_room (Nat.le_of_ble_eq_true rfl)) dX7_roll_29 ⟨Nat.le_of_ble_eq_true rfl, Nat.le_of_ble_eq_true rfl⟩) ?_
    refine xw_calln (va_runV (As := [.int (nI (16 * j_p1 + j_p2)), .int (enc v (-1) (-1))]) (rest := []) ⟨hx, hb, hml, hown, hts⟩ (c_X7_rolls l D cA A M ad (sg σ 25 (wrF σ nL (nI j_p1) (nI j_p2) (okB v) o false)) (16 * j_p1 + j_p2) (enc v (-1) (-1)) (by omega)) (cwV 2 hts gX7_roll_X7_rolls rfl rfl rfl (by decide +kernel) ⟨Nat.le_of_ble_eq_true rfl, Nat.le_of_ble_eq_true rfl⟩) (xPV hK hM.1 rfl hM) rfl rfl hl.1 rfl (lv_room (Nat.le_of_ble_eq_true rfl)) dX7_roll_32 ⟨Nat.le_of_ble_eq_true rfl, Nat.le_of_ble_eq_true rfl⟩) hS (fun _ _ h => h) (fun _ h => h) (fun H locs hM _ _ hS => ?_)
    exact xw_vret hx hb hr hlocks hS (mJ_ok hM z_c_1 z_c_1 (by rw [ecl]; exact ⟨rfl, PE_sa (PE_sa (PE.rf.sg 25 _ (by decide)) 9 _ _) 10 _ _⟩)) (Nat.le_refl _) (Nat.le_refl _) dX7_roll_35
set_option maxHeartbeats 4000000 in
set_option maxRecDepth 100000 in
theorem c_X7_rollTemplate (l : Launch) (D : va_G) (cA : Nat → ClassId) (A : Nat → Prop) (M : Nat) (ad : Nat → Nat) (σ : MS) (p1 : Int32) (p2 : Int32) (b : Int32) (f : Int32) (s2 : Int32) (o : Int32) (nL : Nat) (hL : σ.1 6 = nI nL) (hL2 : nL ≤ 8) : Met l yX7_rollTemplate wsX7_rollTemplate (rmK 4 0 0) (xP D cA [.ref M, .int p1, .int p2, .int b, .int f, .int s2, .int o] (MR D cA A M ad σ)) (xW (mJ D cA A M ad σ (wrF σ nL p1 p2 (okB b && okT f s2) o false) (fun r τ => r = none ∧ PE τ (rlS σ (cl p1 p2) (enc b f s2)))) A) 0 0 A := by
  refine Met.ofW (cc := cX7_rollTemplate) (maxL := 7) (ret := none) (by decide) rfl ?_
  intro p e s m args below meth c s₁ B hml hv
  obtain ⟨rfl, hK, hI⟩ := hv
  have hx := B.exec
  have hb := B.bytes
  have hr := B.returns
  have hts := atoms_spec (ws := wsX7_rollTemplate) B.pre
  have hown : s.vm.findClass RX7 = some m.cls := findClass_of_methodNamed B.named
  have hlocks := B.notSynchronized
  have hl := lv_entry ([.ref M, .int p1, .int p2, .int b, .int f, .int s2, .int o]) (n := 7) (Nat.le_of_ble_eq_true rfl)
  rw [lg_entry_eq]
  generalize (lg_sl ([.ref M, .int p1, .int p2, .int b, .int f, .int s2, .int o]) ++ List.replicate (7 - (lg_sl ([.ref M, .int p1, .int p2, .int b, .int f, .int s2, .int o])).length) Slot.unset).toArray = ls at hl ⊢
  have hl : lv_has ls 7 [(0, .ref M), (1, .int p1), (2, .int p2), (3, .int b), (4, .int f), (5, .int s2), (6, .int o)] := hl
  have hM : MR D cA A M ad σ s.heap := hI
  have h7 : ∀ w ∈ wsX70, w ∈ wsX7_rollTemplate := fun _ h => List.mem_cons_of_mem _ (List.mem_append_right _ h)
  have hS : va_S A s.heap s.heap [] := va_S.rf
  refine lv_aload_n hx hb dX7_rollTemplate_0 rfl (lv_at hl 0 rfl) ?_
  refine lv_aload_n hx hb dX7_rollTemplate_1 rfl (lv_at hl 0 rfl) ?_
  refine lv_iload_n hx hb dX7_rollTemplate_2 rfl (lv_at hl 1 rfl) ?_
  refine lv_iload_n hx hb dX7_rollTemplate_3 rfl (lv_at hl 2 rfl) ?_
  refine lv_iload_n hx hb dX7_rollTemplate_4 rfl (lv_at hl 3 rfl) ?_
  refine xr_call (va_runS (As := [.int b]) (rest := [.int p2, .int p1, .ref M, .ref M]) ⟨hx, hb, hml, hown, hts⟩ (c_X7_isBase l D cA b) (va_cwS 1 hts gX7_rollTemplate_X7_isBase rfl rfl rfl (by decide +kernel) ⟨Nat.le_of_ble_eq_true rfl, Nat.le_of_ble_eq_true rfl⟩) (xPS hK trivial) rfl rfl hl.1 rfl (lv_room (Nat.le_of_ble_eq_true rfl)) dX7_rollTemplate_5 ⟨Nat.le_of_ble_eq_true rfl, Nat.le_of_ble_eq_true rfl⟩) ?_
  refine xb_eq (tgt := 25) hx hb dX7_rollTemplate_8 (by decide) (fun c_1 => ?_) (fun c_1 => ?_)
  · refine lv_iconst (v := 0) hx hb dX7_rollTemplate_25 (by decide) ?_
    refine lv_iload hx hb dX7_rollTemplate_26 (lv_at hl 6 rfl) ?_
    refine lv_iconst (v := 0) hx hb dX7_rollTemplate_28 (by decide) ?_
    refine xr_call (va_runV (As := [.int p1, .int p2, .int 0, .int o, .int 0]) (rest := [.ref M]) ⟨hx, hb, hml, hown, hts⟩ (c_X7_wrong l D cA A M ad σ p1 p2 false o false nL hL hL2) (cwV 5 hts gX7_rollTemplate_X7_wrong rfl rfl rfl (by decide +kernel) ⟨Nat.le_of_ble_eq_true rfl, Nat.le_of_ble_eq_true rfl⟩) (xPV hK hM.1 rfl hM) rfl rfl hl.1 rfl (lv_room (Nat.le_of_ble_eq_true rfl)) dX7_rollTemplate_29 ⟨Nat.le_of_ble_eq_true rfl, Nat.le_of_ble_eq_true rfl⟩) ?_
    refine xw_calls (va_runV (As := [.int (wrF σ nL p1 p2 false o false)]) (rest := []) ⟨hx, hb, hml, hown, hts⟩ (c_X7_goes l D cA A M ad σ (wrF σ nL p1 p2 false o false)) (cwV 1 hts gX7_rollTemplate_X7_goes rfl rfl rfl (by decide +kernel) ⟨Nat.le_of_ble_eq_true rfl, Nat.le_of_ble_eq_true rfl⟩) (xPV hK hM.1 rfl hM) rfl rfl hl.1 rfl (lv_room (Nat.le_of_ble_eq_true rfl)) dX7_rollTemplate_32 ⟨Nat.le_of_ble_eq_true rfl, Nat.le_of_ble_eq_true rfl⟩) hS (fun _ _ h => h) (fun _ h => h) (fun H locs hM _ _ hS => ?_)
    refine xb_eq (tgt := 55) hx hb dX7_rollTemplate_35 (by decide) (fun c_2 => ?_) (fun c_2 => ?_)
    · have z_c_2 : ¬ (wrF σ nL p1 p2 false o false) = 0 := fun q => by simp [gz, q] at c_2
      exact xw_vret hx hb hr hlocks hS (mJ_no hM (by rw [show (okB b && okT f s2) = false from by simp [c_1]]) z_c_2 rfl (PE.rf.sg 25 _ (by decide))) (Nat.le_refl _) (Nat.le_refl _) dX7_rollTemplate_55
    · have z_c_2 := gz_t c_2
      obtain ⟨y1_c_2, y2_c_2, y3_c_2, y4_c_2⟩ := wrF_0 z_c_2
      obtain ⟨j_p1, hj_p1, rfl⟩ := okN_of (by omega) y1_c_2
      obtain ⟨j_p2, hj_p2, rfl⟩ := okS_of y2_c_2
      have ecl : cl (nI j_p1) (nI j_p2) = 16 * j_p1 + j_p2 := cl_nI (by omega) hj_p2
      refine lv_aload_n hx hb dX7_rollTemplate_38 rfl (lv_at hl 0 rfl) ?_
      refine lv_iload_n hx hb dX7_rollTemplate_39 rfl (lv_at hl 1 rfl) ?_
      refine lv_iload_n hx hb dX7_rollTemplate_40 rfl (lv_at hl 2 rfl) ?_
      refine xr_call (va_runS (As := [.int (nI j_p1), .int (nI j_p2)]) (rest := [.ref M]) ⟨hx, hb, hml, hown, hts⟩ (c_X7_cell l D cA j_p1 j_p2) (va_cwS 2 hts gX7_rollTemplate_X7_cell rfl rfl rfl (by decide +kernel) ⟨Nat.le_of_ble_eq_true rfl, Nat.le_of_ble_eq_true rfl⟩) (xPS hK trivial) rfl rfl hl.1 rfl (lv_room (Nat.le_of_ble_eq_true rfl)) dX7_rollTemplate_41 ⟨Nat.le_of_ble_eq_true rfl, Nat.le_of_ble_eq_true rfl⟩) ?_
      refine lv_iload_n hx hb dX7_rollTemplate_44 rfl (lv_at hl 3 rfl) ?_
      refine lv_iload hx hb dX7_rollTemplate_45 (lv_at hl 4 rfl) ?_
      refine lv_iload hx hb dX7_rollTemplate_47 (lv_at hl 5 rfl) ?_
      refine xr_call (va_runS (As := [.int b, .int f, .int s2]) (rest := [.int (nI (16 * j_p1 + j_p2)), .ref M]) ⟨hx, hb, hml, hown, hts⟩ (c_X7_entry l D cA b f s2) (va_cwS 3 hts gX7_rollTemplate_X7_entry rfl rfl rfl (by decide +kernel) ⟨Nat.le_of_ble_eq_true rfl, Nat.le_of_ble_eq_true rfl⟩) (xPS hK trivial) rfl rfl hl.1 rfl (lv_room (Nat.le_of_ble_eq_true rfl)) dX7_rollTemplate_49 ⟨Nat.le_of_ble_eq_true rfl, Nat.le_of_ble_eq_true rfl⟩) ?_
      refine xw_calln (va_runV (As := [.int (nI (16 * j_p1 + j_p2)), .int (enc b f s2)]) (rest := []) ⟨hx, hb, hml, hown, hts⟩ (c_X7_rolls l D cA A M ad (sg σ 25 (wrF σ nL (nI j_p1) (nI j_p2) false o false)) (16 * j_p1 + j_p2) (enc b f s2) (by omega)) (cwV 2 hts gX7_rollTemplate_X7_rolls rfl rfl rfl (by decide +kernel) ⟨Nat.le_of_ble_eq_true rfl, Nat.le_of_ble_eq_true rfl⟩) (xPV hK hM.1 rfl hM) rfl rfl hl.1 rfl (lv_room (Nat.le_of_ble_eq_true rfl)) dX7_rollTemplate_52 ⟨Nat.le_of_ble_eq_true rfl, Nat.le_of_ble_eq_true rfl⟩) hS (fun _ _ h => h) (fun _ h => h) (fun H locs hM _ _ hS => ?_)
      exact xw_vret hx hb hr hlocks hS (mJ_ok hM (by rw [show (okB b && okT f s2) = false from by simp [c_1]]; exact z_c_2) z_c_2 (by rw [ecl]; exact ⟨rfl, PE_sa (PE_sa (PE.rf.sg 25 _ (by decide)) 9 _ _) 10 _ _⟩)) (Nat.le_refl _) (Nat.le_refl _) dX7_rollTemplate_55
  · refine lv_iload hx hb dX7_rollTemplate_11 (lv_at hl 4 rfl) ?_
    refine lv_iload hx hb dX7_rollTemplate_13 (lv_at hl 5 rfl) ?_
    refine xr_call (va_runS (As := [.int f, .int s2]) (rest := [.int p2, .int p1, .ref M, .ref M]) ⟨hx, hb, hml, hown, hts⟩ (c_X7_areSettings l D cA f s2) (va_cwS 2 hts gX7_rollTemplate_X7_areSettings rfl rfl rfl (by decide +kernel) ⟨Nat.le_of_ble_eq_true rfl, Nat.le_of_ble_eq_true rfl⟩) (xPS hK trivial) rfl rfl hl.1 rfl (lv_room (Nat.le_of_ble_eq_true rfl)) dX7_rollTemplate_15 ⟨Nat.le_of_ble_eq_true rfl, Nat.le_of_ble_eq_true rfl⟩) ?_
    refine xb_eq (tgt := 25) hx hb dX7_rollTemplate_18 (by decide) (fun c_3 => ?_) (fun c_3 => ?_)
    · refine lv_iconst (v := 0) hx hb dX7_rollTemplate_25 (by decide) ?_
      refine lv_iload hx hb dX7_rollTemplate_26 (lv_at hl 6 rfl) ?_
      refine lv_iconst (v := 0) hx hb dX7_rollTemplate_28 (by decide) ?_
      refine xr_call (va_runV (As := [.int p1, .int p2, .int 0, .int o, .int 0]) (rest := [.ref M]) ⟨hx, hb, hml, hown, hts⟩ (c_X7_wrong l D cA A M ad σ p1 p2 false o false nL hL hL2) (cwV 5 hts gX7_rollTemplate_X7_wrong rfl rfl rfl (by decide +kernel) ⟨Nat.le_of_ble_eq_true rfl, Nat.le_of_ble_eq_true rfl⟩) (xPV hK hM.1 rfl hM) rfl rfl hl.1 rfl (lv_room (Nat.le_of_ble_eq_true rfl)) dX7_rollTemplate_29 ⟨Nat.le_of_ble_eq_true rfl, Nat.le_of_ble_eq_true rfl⟩) ?_
      refine xw_calls (va_runV (As := [.int (wrF σ nL p1 p2 false o false)]) (rest := []) ⟨hx, hb, hml, hown, hts⟩ (c_X7_goes l D cA A M ad σ (wrF σ nL p1 p2 false o false)) (cwV 1 hts gX7_rollTemplate_X7_goes rfl rfl rfl (by decide +kernel) ⟨Nat.le_of_ble_eq_true rfl, Nat.le_of_ble_eq_true rfl⟩) (xPV hK hM.1 rfl hM) rfl rfl hl.1 rfl (lv_room (Nat.le_of_ble_eq_true rfl)) dX7_rollTemplate_32 ⟨Nat.le_of_ble_eq_true rfl, Nat.le_of_ble_eq_true rfl⟩) hS (fun _ _ h => h) (fun _ h => h) (fun H locs hM _ _ hS => ?_)
      refine xb_eq (tgt := 55) hx hb dX7_rollTemplate_35 (by decide) (fun c_4 => ?_) (fun c_4 => ?_)
      · have z_c_4 : ¬ (wrF σ nL p1 p2 false o false) = 0 := fun q => by simp [gz, q] at c_4
        exact xw_vret hx hb hr hlocks hS (mJ_no hM (by rw [show (okB b && okT f s2) = false from by simp [c_1, c_3]]) z_c_4 rfl (PE.rf.sg 25 _ (by decide))) (Nat.le_refl _) (Nat.le_refl _) dX7_rollTemplate_55
      · have z_c_4 := gz_t c_4
        obtain ⟨y1_c_4, y2_c_4, y3_c_4, y4_c_4⟩ := wrF_0 z_c_4
        obtain ⟨j_p1, hj_p1, rfl⟩ := okN_of (by omega) y1_c_4
        obtain ⟨j_p2, hj_p2, rfl⟩ := okS_of y2_c_4
        have ecl : cl (nI j_p1) (nI j_p2) = 16 * j_p1 + j_p2 := cl_nI (by omega) hj_p2
        refine lv_aload_n hx hb dX7_rollTemplate_38 rfl (lv_at hl 0 rfl) ?_
        refine lv_iload_n hx hb dX7_rollTemplate_39 rfl (lv_at hl 1 rfl) ?_
        refine lv_iload_n hx hb dX7_rollTemplate_40 rfl (lv_at hl 2 rfl) ?_
        refine xr_call (va_runS (As := [.int (nI j_p1), .int (nI j_p2)]) (rest := [.ref M]) ⟨hx, hb, hml, hown, hts⟩ (c_X7_cell l D cA j_p1 j_p2) (va_cwS 2 hts gX7_rollTemplate_X7_cell rfl rfl rfl (by decide +kernel) ⟨Nat.le_of_ble_eq_true rfl, Nat.le_of_ble_eq_true rfl⟩) (xPS hK trivial) rfl rfl hl.1 rfl (lv_room (Nat.le_of_ble_eq_true rfl)) dX7_rollTemplate_41 ⟨Nat.le_of_ble_eq_true rfl, Nat.le_of_ble_eq_true rfl⟩) ?_
        refine lv_iload_n hx hb dX7_rollTemplate_44 rfl (lv_at hl 3 rfl) ?_
        refine lv_iload hx hb dX7_rollTemplate_45 (lv_at hl 4 rfl) ?_
        refine lv_iload hx hb dX7_rollTemplate_47 (lv_at hl 5 rfl) ?_
        refine xr_call (va_runS (As := [.int b, .int f, .int s2]) (rest := [.int (nI (16 * j_p1 + j_p2)), .ref M]) ⟨hx, hb, hml, hown, hts⟩ (c_X7_entry l D cA b f s2) (va_cwS 3 hts gX7_rollTemplate_X7_entry rfl rfl rfl (by decide +kernel) ⟨Nat.le_of_ble_eq_true rfl, Nat.le_of_ble_eq_true rfl⟩) (xPS hK trivial) rfl rfl hl.1 rfl (lv_room (Nat.le_of_ble_eq_true rfl)) dX7_rollTemplate_49 ⟨Nat.le_of_ble_eq_true rfl, Nat.le_of_ble_eq_true rfl⟩) ?_
        refine xw_calln (va_runV (As := [.int (nI (16 * j_p1 + j_p2)), .int (enc b f s2)]) (rest := []) ⟨hx, hb, hml, hown, hts⟩ (c_X7_rolls l D cA A M ad (sg σ 25 (wrF σ nL (nI j_p1) (nI j_p2) false o false)) (16 * j_p1 + j_p2) (enc b f s2) (by omega)) (cwV 2 hts gX7_rollTemplate_X7_rolls rfl rfl rfl (by decide +kernel) ⟨Nat.le_of_ble_eq_true rfl, Nat.le_of_ble_eq_true rfl⟩) (xPV hK hM.1 rfl hM) rfl rfl hl.1 rfl (lv_room (Nat.le_of_ble_eq_true rfl)) dX7_rollTemplate_52 ⟨Nat.le_of_ble_eq_true rfl, Nat.le_of_ble_eq_true rfl⟩) hS (fun _ _ h => h) (fun _ h => h) (fun H locs hM _ _ hS => ?_)
        exact xw_vret hx hb hr hlocks hS (mJ_ok hM (by rw [show (okB b && okT f s2) = false from by simp [c_1, c_3]]; exact z_c_4) z_c_4 (by rw [ecl]; exact ⟨rfl, PE_sa (PE_sa (PE.rf.sg 25 _ (by decide)) 9 _ _) 10 _ _⟩)) (Nat.le_refl _) (Nat.le_refl _) dX7_rollTemplate_55
    · refine lv_iconst (v := 1) hx hb dX7_rollTemplate_21 (by decide) ?_
      refine lv_goto (tgt := 26) hx hb dX7_rollTemplate_22 (by decide) ?_
      refine lv_iload hx hb dX7_rollTemplate_26 (lv_at hl 6 rfl) ?_
      refine lv_iconst (v := 0) hx hb dX7_rollTemplate_28 (by decide) ?_
      refine xr_call (va_runV (As := [.int p1, .int p2, .int 1, .int o, .int 0]) (rest := [.ref M]) ⟨hx, hb, hml, hown, hts⟩ (c_X7_wrong l D cA A M ad σ p1 p2 true o false nL hL hL2) (cwV 5 hts gX7_rollTemplate_X7_wrong rfl rfl rfl (by decide +kernel) ⟨Nat.le_of_ble_eq_true rfl, Nat.le_of_ble_eq_true rfl⟩) (xPV hK hM.1 rfl hM) rfl rfl hl.1 rfl (lv_room (Nat.le_of_ble_eq_true rfl)) dX7_rollTemplate_29 ⟨Nat.le_of_ble_eq_true rfl, Nat.le_of_ble_eq_true rfl⟩) ?_
      refine xw_calls (va_runV (As := [.int (wrF σ nL p1 p2 true o false)]) (rest := []) ⟨hx, hb, hml, hown, hts⟩ (c_X7_goes l D cA A M ad σ (wrF σ nL p1 p2 true o false)) (cwV 1 hts gX7_rollTemplate_X7_goes rfl rfl rfl (by decide +kernel) ⟨Nat.le_of_ble_eq_true rfl, Nat.le_of_ble_eq_true rfl⟩) (xPV hK hM.1 rfl hM) rfl rfl hl.1 rfl (lv_room (Nat.le_of_ble_eq_true rfl)) dX7_rollTemplate_32 ⟨Nat.le_of_ble_eq_true rfl, Nat.le_of_ble_eq_true rfl⟩) hS (fun _ _ h => h) (fun _ h => h) (fun H locs hM _ _ hS => ?_)
      refine xb_eq (tgt := 55) hx hb dX7_rollTemplate_35 (by decide) (fun c_5 => ?_) (fun c_5 => ?_)
      · have z_c_5 : ¬ (wrF σ nL p1 p2 true o false) = 0 := fun q => by simp [gz, q] at c_5
        exact xw_vret hx hb hr hlocks hS (mJ_no hM (by rw [show (okB b && okT f s2) = true from by simp [c_1, c_3]]) z_c_5 rfl (PE.rf.sg 25 _ (by decide))) (Nat.le_refl _) (Nat.le_refl _) dX7_rollTemplate_55
      · have z_c_5 := gz_t c_5
        obtain ⟨y1_c_5, y2_c_5, y3_c_5, y4_c_5⟩ := wrF_0 z_c_5
        obtain ⟨j_p1, hj_p1, rfl⟩ := okN_of (by omega) y1_c_5
        obtain ⟨j_p2, hj_p2, rfl⟩ := okS_of y2_c_5
        have ecl : cl (nI j_p1) (nI j_p2) = 16 * j_p1 + j_p2 := cl_nI (by omega) hj_p2
        refine lv_aload_n hx hb dX7_rollTemplate_38 rfl (lv_at hl 0 rfl) ?_
        refine lv_iload_n hx hb dX7_rollTemplate_39 rfl (lv_at hl 1 rfl) ?_
        refine lv_iload_n hx hb dX7_rollTemplate_40 rfl (lv_at hl 2 rfl) ?_
        refine xr_call (va_runS (As := [.int (nI j_p1), .int (nI j_p2)]) (rest := [.ref M]) ⟨hx, hb, hml, hown, hts⟩ (c_X7_cell l D cA j_p1 j_p2) (va_cwS 2 hts gX7_rollTemplate_X7_cell rfl rfl rfl (by decide +kernel) ⟨Nat.le_of_ble_eq_true rfl, Nat.le_of_ble_eq_true rfl⟩) (xPS hK trivial) rfl rfl hl.1 rfl (lv_room (Nat.le_of_ble_eq_true rfl)) dX7_rollTemplate_41 ⟨Nat.le_of_ble_eq_true rfl, Nat.le_of_ble_eq_true rfl⟩) ?_
        refine lv_iload_n hx hb dX7_rollTemplate_44 rfl (lv_at hl 3 rfl) ?_
        refine lv_iload hx hb dX7_rollTemplate_45 (lv_at hl 4 rfl) ?_
        refine lv_iload hx hb dX7_rollTemplate_47 (lv_at hl 5 rfl) ?_
        refine xr_call (va_runS (As := [.int b, .int f, .int s2]) (rest := [.int (nI (16 * j_p1 + j_p2)), .ref M]) ⟨hx, hb, hml, hown, hts⟩ (c_X7_entry l D cA b f s2) (va_cwS 3 hts gX7_rollTemplate_X7_entry rfl rfl rfl (by decide +kernel) ⟨Nat.le_of_ble_eq_true rfl, Nat.le_of_ble_eq_true rfl⟩) (xPS hK trivial) rfl rfl hl.1 rfl (lv_room (Nat.le_of_ble_eq_true rfl)) dX7_rollTemplate_49 ⟨Nat.le_of_ble_eq_true rfl, Nat.le_of_ble_eq_true rfl⟩) ?_
        refine xw_calln (va_runV (As := [.int (nI (16 * j_p1 + j_p2)), .int (enc b f s2)]) (rest := []) ⟨hx, hb, hml, hown, hts⟩ (c_X7_rolls l D cA A M ad (sg σ 25 (wrF σ nL (nI j_p1) (nI j_p2) true o false)) (16 * j_p1 + j_p2) (enc b f s2) (by omega)) (cwV 2 hts gX7_rollTemplate_X7_rolls rfl rfl rfl (by decide +kernel) ⟨Nat.le_of_ble_eq_true rfl, Nat.le_of_ble_eq_true rfl⟩) (xPV hK hM.1 rfl hM) rfl rfl hl.1 rfl (lv_room (Nat.le_of_ble_eq_true rfl)) dX7_rollTemplate_52 ⟨Nat.le_of_ble_eq_true rfl, Nat.le_of_ble_eq_true rfl⟩) hS (fun _ _ h => h) (fun _ h => h) (fun H locs hM _ _ hS => ?_)
        exact xw_vret hx hb hr hlocks hS (mJ_ok hM (by rw [show (okB b && okT f s2) = true from by simp [c_1, c_3]]; exact z_c_5) z_c_5 (by rw [ecl]; exact ⟨rfl, PE_sa (PE_sa (PE.rf.sg 25 _ (by decide)) 9 _ _) 10 _ _⟩)) (Nat.le_refl _) (Nat.le_refl _) dX7_rollTemplate_55
