set_option maxHeartbeats 4000000 in
set_option maxRecDepth 100000 in
theorem c_X7_client (l : Launch) (D : va_G) (cA : Nat → ClassId) (A : Nat → Prop) (M : Nat) (ad : Nat → Nat) (σ : MS) (a : Int32) (b : Int32) (nC : Nat) (hC : σ.1 2 = nI nC) (hC2 : nC ≤ 12) : Met l yX7_client wsX7_client (rmK 2 0 0) (xP D cA [.ref M, .int a, .int b] (MR D cA A M ad σ)) (xW (mJ D cA A M ad σ (kCl nC a b) (fun r τ => r = some (.int (nI nC)) ∧ PE τ (clS σ nC a b))) A) 0 0 A := by
  refine Met.ofW (cc := cX7_client) (maxL := 3) (ret := (some .int)) (by decide) rfl ?_
  intro p e s m args below meth c s₁ B hml hv
  obtain ⟨rfl, hK, hI⟩ := hv
  have hx := B.exec
  have hb := B.bytes
  have hr := B.returns
  have hts := atoms_spec (ws := wsX7_client) B.pre
  have hown : s.vm.findClass RX7 = some m.cls := findClass_of_methodNamed B.named
  have hlocks := B.notSynchronized
  have hl := lv_entry ([.ref M, .int a, .int b]) (n := 3) (Nat.le_of_ble_eq_true rfl)
  rw [lg_entry_eq]
  generalize (lg_sl ([.ref M, .int a, .int b]) ++ List.replicate (3 - (lg_sl ([.ref M, .int a, .int b])).length) Slot.unset).toArray = ls at hl ⊢
  have hl : lv_has ls 3 [(0, .ref M), (1, .int a), (2, .int b)] := hl
  have hM : MR D cA A M ad σ s.heap := hI
  have h7 : ∀ w ∈ wsX70, w ∈ wsX7_client := fun _ h => List.mem_cons_of_mem _ (List.mem_append_right _ h)
  have hS : va_S A s.heap s.heap [] := va_S.rf
  refine lv_aload_n hx hb dX7_client_0 rfl (lv_at hl 0 rfl) ?_
  refine lv_iload_n hx hb dX7_client_1 rfl (lv_at hl 1 rfl) ?_
  refine xr_call (va_runS (As := [.int a]) (rest := [.ref M]) ⟨hx, hb, hml, hown, hts⟩ (c_X7_isEight l D cA a) (va_cwS 1 hts gX7_client_X7_isEight rfl rfl rfl (by decide +kernel) ⟨Nat.le_of_ble_eq_true rfl, Nat.le_of_ble_eq_true rfl⟩) (xPS hK trivial) rfl rfl hl.1 rfl (lv_room (Nat.le_of_ble_eq_true rfl)) dX7_client_2 ⟨Nat.le_of_ble_eq_true rfl, Nat.le_of_ble_eq_true rfl⟩) ?_
  refine xb_eq (tgt := 15) hx hb dX7_client_5 (by decide) (fun c_1 => ?_) (fun c_1 => ?_)
  · refine lv_iconst (v := 1) hx hb dX7_client_15 (by decide) ?_
    refine lv_goto (tgt := 33) hx hb dX7_client_16 (by decide) ?_
    refine xw_calls (va_runV (As := [.int 1]) (rest := []) ⟨hx, hb, hml, hown, hts⟩ (c_X7_goes l D cA A M ad σ 1) (cwV 1 hts gX7_client_X7_goes rfl rfl rfl (by decide +kernel) ⟨Nat.le_of_ble_eq_true rfl, Nat.le_of_ble_eq_true rfl⟩) (xPV hK hM.1 rfl hM) rfl rfl hl.1 rfl (lv_room (Nat.le_of_ble_eq_true rfl)) dX7_client_33 ⟨Nat.le_of_ble_eq_true rfl, Nat.le_of_ble_eq_true rfl⟩) hS (fun _ _ h => h) (fun _ h => h) (fun H locs hM _ _ hS => ?_)
    refine xb_ne (tgt := 41) hx hb dX7_client_36 (by decide) (fun c_2 => absurd c_2 (by decide)) (fun _ => ?_)
    refine lv_iconst (v := 0) hx hb dX7_client_39 (by decide) ?_
    exact xw_iret hx hb hr hlocks hS (mJ_no (w := 1) hM (by first | (simp [kCl, c_1]; done) | (simp_all [kCl]; done) | (simp [kCl, c_1]; omega)) (by decide) rfl (PE.rf.sg 25 _ (by decide))) (Nat.le_refl _) (Nat.le_refl _) dX7_client_40
  · refine lv_iload_n hx hb dX7_client_8 rfl (lv_at hl 2 rfl) ?_
    refine xr_call (va_runS (As := [.int b]) (rest := [.ref M]) ⟨hx, hb, hml, hown, hts⟩ (c_X7_isEight l D cA b) (va_cwS 1 hts gX7_client_X7_isEight rfl rfl rfl (by decide +kernel) ⟨Nat.le_of_ble_eq_true rfl, Nat.le_of_ble_eq_true rfl⟩) (xPS hK trivial) rfl rfl hl.1 rfl (lv_room (Nat.le_of_ble_eq_true rfl)) dX7_client_9 ⟨Nat.le_of_ble_eq_true rfl, Nat.le_of_ble_eq_true rfl⟩) ?_
    refine xb_ne (tgt := 19) hx hb dX7_client_12 (by decide) (fun c_3 => ?_) (fun c_3 => ?_)
    · refine lv_aload_n hx hb dX7_client_19 rfl (lv_at hl 0 rfl) ?_
      refine m_get (v := .int (nI nC)) hx hb hts h7 hown hK hM 2 (by decide) (hts (.fieldLink RX7 64 "ConfigBeaconModel" "clients" "I") (by decide +kernel)) (by show some (Value.int (σ.1 2)) = _; rw [hC]) dX7_client_20 ?_
      refine lv_bipush (v := 12) hx hb dX7_client_23 (by decide) ?_
      refine lv_icmp_ne (tgt := 32) hx hb dX7_client_25 (by decide) (fun c_4 => ?_) (fun c_4 => ?_)
      · have n_4 : ¬ nC = 12 := fun q => c_4 ((nI_eq (a := nC) (b := 12) (by omega) (by omega)).mpr q)
        have hlt : nC < 12 := by
          rcases Nat.lt_or_ge nC 12 with h | h
          · exact h
          · exact absurd (show nI nC = 12 by rw [show nC = 12 by omega]; rfl) c_4
        refine lv_iconst (v := 0) hx hb dX7_client_32 (by decide) ?_
        refine xw_calls (va_runV (As := [.int 0]) (rest := []) ⟨hx, hb, hml, hown, hts⟩ (c_X7_goes l D cA A M ad σ 0) (cwV 1 hts gX7_client_X7_goes rfl rfl rfl (by decide +kernel) ⟨Nat.le_of_ble_eq_true rfl, Nat.le_of_ble_eq_true rfl⟩) (xPV hK hM.1 rfl hM) rfl rfl hl.1 rfl (lv_room (Nat.le_of_ble_eq_true rfl)) dX7_client_33 ⟨Nat.le_of_ble_eq_true rfl, Nat.le_of_ble_eq_true rfl⟩) hS (fun _ _ h => h) (fun _ h => h) (fun H locs hM _ _ hS => ?_)
        refine xb_ne (tgt := 41) hx hb dX7_client_36 (by decide) (fun _ => ?_) (fun c_5 => absurd c_5 (by decide))
        refine lv_aload_n hx hb dX7_client_41 rfl (lv_at hl 0 rfl) ?_
        refine m_get (v := .ref (ad 0)) hx hb hts h7 hown hK hM 0 (by decide) (hts (.fieldLink RX7 7 "ConfigBeaconModel" "regions" "[I") (by decide +kernel)) rfl dX7_client_42 ?_
        refine lv_aload_n hx hb dX7_client_45 rfl (lv_at hl 0 rfl) ?_
        refine m_get (v := .int (nI nC)) hx hb hts h7 hown hK hM 2 (by decide) (hts (.fieldLink RX7 64 "ConfigBeaconModel" "clients" "I") (by decide +kernel)) (by show some (Value.int (σ.1 2)) = _; rw [hC]) dX7_client_46 ?_
        refine lv_iload_n hx hb dX7_client_49 rfl (lv_at hl 1 rfl) ?_
        refine m_ast hx hb hK hM hS 0 (by decide) (n := 12) rfl nC rfl (by omega) (by decide) dX7_client_50 (fun H locs hM hS => ?_)
        refine lv_aload_n hx hb dX7_client_51 rfl (lv_at hl 0 rfl) ?_
        refine m_get (v := .ref (ad 1)) hx hb hts h7 hown hK hM 1 (by decide) (hts (.fieldLink RX7 13 "ConfigBeaconModel" "groups" "[I") (by decide +kernel)) rfl dX7_client_52 ?_
        refine lv_aload_n hx hb dX7_client_55 rfl (lv_at hl 0 rfl) ?_
        refine m_get (v := .int (nI nC)) hx hb hts h7 hown hK hM 2 (by decide) (hts (.fieldLink RX7 64 "ConfigBeaconModel" "clients" "I") (by decide +kernel)) (by show some (Value.int (σ.1 2)) = _; rw [hC]) dX7_client_56 ?_
        refine lv_iload_n hx hb dX7_client_59 rfl (lv_at hl 2 rfl) ?_
        refine m_ast hx hb hK hM hS 1 (by decide) (n := 12) rfl nC rfl (by omega) (by decide) dX7_client_60 (fun H locs hM hS => ?_)
        refine lv_aload_n hx hb dX7_client_61 rfl (lv_at hl 0 rfl) ?_
        refine lv_dup hx hb dX7_client_62 rfl ?_
        refine m_get (v := .int (nI nC)) hx hb hts h7 hown hK hM 2 (by decide) (hts (.fieldLink RX7 64 "ConfigBeaconModel" "clients" "I") (by decide +kernel)) (by show some (Value.int (σ.1 2)) = _; rw [hC]) dX7_client_63 ?_
        refine lv_iconst (v := 1) hx hb dX7_client_66 (by decide) ?_
        refine xe_iadd hx hb (nI_add nC 1) dX7_client_67 ?_
        refine m_put hx hb hts h7 hown hK hM hS 2 (by decide) (by decide) (hts (.fieldLink RX7 64 "ConfigBeaconModel" "clients" "I") (by decide +kernel)) rfl rfl dX7_client_68 (fun H locs hM hS => ?_)
        refine lv_aload_n hx hb dX7_client_71 rfl (lv_at hl 0 rfl) ?_
        refine m_get (v := .int (nI (nC + 1))) hx hb hts h7 hown hK hM 2 (by decide) (hts (.fieldLink RX7 64 "ConfigBeaconModel" "clients" "I") (by decide +kernel)) rfl dX7_client_72 ?_
        refine lv_iconst (v := 1) hx hb dX7_client_75 (by decide) ?_
        refine xe_isub hx hb (pk_sub (show 1 ≤ (nC + 1) by omega)) dX7_client_76 ?_
        exact xw_iret hx hb hr hlocks hS (mJ_ok hM (by first | (simp [kCl, c_1, c_3, c_4, n_4]; done) | (simp_all [kCl]; done) | (simp [kCl, c_1, c_3, c_4, n_4]; omega)) rfl ⟨rfl, ⟨fun k q => by (simp only [List.mem_cons, List.not_mem_nil, or_false] at q; rcases q with rfl | rfl | rfl <;> rfl), fun _ _ => rfl⟩⟩) (Nat.le_refl _) (Nat.le_refl _) dX7_client_77
      · have n_4 : nC = 12 := (nI_eq (a := nC) (b := 12) (by omega) (by omega)).mp c_4
        refine lv_iconst (v := 2) hx hb dX7_client_28 (by decide) ?_
        refine lv_goto (tgt := 33) hx hb dX7_client_29 (by decide) ?_
        refine xw_calls (va_runV (As := [.int 2]) (rest := []) ⟨hx, hb, hml, hown, hts⟩ (c_X7_goes l D cA A M ad σ 2) (cwV 1 hts gX7_client_X7_goes rfl rfl rfl (by decide +kernel) ⟨Nat.le_of_ble_eq_true rfl, Nat.le_of_ble_eq_true rfl⟩) (xPV hK hM.1 rfl hM) rfl rfl hl.1 rfl (lv_room (Nat.le_of_ble_eq_true rfl)) dX7_client_33 ⟨Nat.le_of_ble_eq_true rfl, Nat.le_of_ble_eq_true rfl⟩) hS (fun _ _ h => h) (fun _ h => h) (fun H locs hM _ _ hS => ?_)
        refine xb_ne (tgt := 41) hx hb dX7_client_36 (by decide) (fun c_6 => absurd c_6 (by decide)) (fun _ => ?_)
        refine lv_iconst (v := 0) hx hb dX7_client_39 (by decide) ?_
        exact xw_iret hx hb hr hlocks hS (mJ_no (w := 2) hM (by first | (simp [kCl, c_1, c_3, c_4, n_4]; done) | (simp_all [kCl]; done) | (simp [kCl, c_1, c_3, c_4, n_4]; omega)) (by decide) rfl (PE.rf.sg 25 _ (by decide))) (Nat.le_refl _) (Nat.le_refl _) dX7_client_40
    · refine lv_iconst (v := 1) hx hb dX7_client_15 (by decide) ?_
      refine lv_goto (tgt := 33) hx hb dX7_client_16 (by decide) ?_
      refine xw_calls (va_runV (As := [.int 1]) (rest := []) ⟨hx, hb, hml, hown, hts⟩ (c_X7_goes l D cA A M ad σ 1) (cwV 1 hts gX7_client_X7_goes rfl rfl rfl (by decide +kernel) ⟨Nat.le_of_ble_eq_true rfl, Nat.le_of_ble_eq_true rfl⟩) (xPV hK hM.1 rfl hM) rfl rfl hl.1 rfl (lv_room (Nat.le_of_ble_eq_true rfl)) dX7_client_33 ⟨Nat.le_of_ble_eq_true rfl, Nat.le_of_ble_eq_true rfl⟩) hS (fun _ _ h => h) (fun _ h => h) (fun H locs hM _ _ hS => ?_)
      refine xb_ne (tgt := 41) hx hb dX7_client_36 (by decide) (fun c_7 => absurd c_7 (by decide)) (fun _ => ?_)
      refine lv_iconst (v := 0) hx hb dX7_client_39 (by decide) ?_
      exact xw_iret hx hb hr hlocks hS (mJ_no (w := 1) hM (by first | (simp [kCl, c_1, c_3]; done) | (simp_all [kCl]; done) | (simp [kCl, c_1, c_3]; omega)) (by decide) rfl (PE.rf.sg 25 _ (by decide))) (Nat.le_refl _) (Nat.le_refl _) dX7_client_40
set_option maxHeartbeats 4000000 in
set_option maxRecDepth 100000 in
theorem c_X7_move (l : Launch) (D : va_G) (cA : Nat → ClassId) (A : Nat → Prop) (M : Nat) (ad : Nat → Nat) (σ : MS) (k : Int32) (a : Int32) (b : Int32) (nC : Nat) (hC : σ.1 2 = nI nC) (hC2 : nC ≤ 12) : Met l yX7_move wsX7_move (rmK 3 0 0) (xP D cA [.ref M, .int k, .int a, .int b] (MR D cA A M ad σ)) (xW (mJ D cA A M ad σ (kMv nC k a b) (fun r τ => r = none ∧ PE τ (mvS σ k a b))) A) 0 0 A := by
  refine Met.ofW (cc := cX7_move) (maxL := 4) (ret := none) (by decide) rfl ?_
  intro p e s m args below meth c s₁ B hml hv
  obtain ⟨rfl, hK, hI⟩ := hv
  have hx := B.exec
  have hb := B.bytes
  have hr := B.returns
  have hts := atoms_spec (ws := wsX7_move) B.pre
  have hown : s.vm.findClass RX7 = some m.cls := findClass_of_methodNamed B.named
  have hlocks := B.notSynchronized
  have hl := lv_entry ([.ref M, .int k, .int a, .int b]) (n := 4) (Nat.le_of_ble_eq_true rfl)
  rw [lg_entry_eq]
  generalize (lg_sl ([.ref M, .int k, .int a, .int b]) ++ List.replicate (4 - (lg_sl ([.ref M, .int k, .int a, .int b])).length) Slot.unset).toArray = ls at hl ⊢
  have hl : lv_has ls 4 [(0, .ref M), (1, .int k), (2, .int a), (3, .int b)] := hl
  have hM : MR D cA A M ad σ s.heap := hI
  have h7 : ∀ w ∈ wsX70, w ∈ wsX7_move := fun _ h => List.mem_cons_of_mem _ (List.mem_append_right _ h)
  have hS : va_S A s.heap s.heap [] := va_S.rf
  refine lv_aload_n hx hb dX7_move_0 rfl (lv_at hl 0 rfl) ?_
  refine lv_aload_n hx hb dX7_move_1 rfl (lv_at hl 0 rfl) ?_
  refine lv_iload_n hx hb dX7_move_2 rfl (lv_at hl 1 rfl) ?_
  refine xr_call (va_runV (As := [.int k]) (rest := [.ref M]) ⟨hx, hb, hml, hown, hts⟩ (c_X7_isClient l D cA A M ad σ k nC hC (by omega)) (cwV 1 hts gX7_move_X7_isClient rfl rfl rfl (by decide +kernel) ⟨Nat.le_of_ble_eq_true rfl, Nat.le_of_ble_eq_true rfl⟩) (xPV hK hM.1 rfl hM) rfl rfl hl.1 rfl (lv_room (Nat.le_of_ble_eq_true rfl)) dX7_move_3 ⟨Nat.le_of_ble_eq_true rfl, Nat.le_of_ble_eq_true rfl⟩) ?_
  refine xb_ne (tgt := 13) hx hb dX7_move_6 (by decide) (fun c_1 => ?_) (fun c_1 => ?_)
  · obtain ⟨j_k, hj_k, rfl⟩ := okN_of (by omega) c_1
    refine lv_iload_n hx hb dX7_move_13 rfl (lv_at hl 2 rfl) ?_
    refine xr_call (va_runS (As := [.int a]) (rest := [.ref M]) ⟨hx, hb, hml, hown, hts⟩ (c_X7_isEight l D cA a) (va_cwS 1 hts gX7_move_X7_isEight rfl rfl rfl (by decide +kernel) ⟨Nat.le_of_ble_eq_true rfl, Nat.le_of_ble_eq_true rfl⟩) (xPS hK trivial) rfl rfl hl.1 rfl (lv_room (Nat.le_of_ble_eq_true rfl)) dX7_move_14 ⟨Nat.le_of_ble_eq_true rfl, Nat.le_of_ble_eq_true rfl⟩) ?_
    refine xb_eq (tgt := 27) hx hb dX7_move_17 (by decide) (fun c_2 => ?_) (fun c_2 => ?_)
    · refine lv_iconst (v := 2) hx hb dX7_move_27 (by decide) ?_
      refine lv_goto (tgt := 32) hx hb dX7_move_28 (by decide) ?_
      refine xw_calls (va_runV (As := [.int 2]) (rest := []) ⟨hx, hb, hml, hown, hts⟩ (c_X7_goes l D cA A M ad σ 2) (cwV 1 hts gX7_move_X7_goes rfl rfl rfl (by decide +kernel) ⟨Nat.le_of_ble_eq_true rfl, Nat.le_of_ble_eq_true rfl⟩) (xPV hK hM.1 rfl hM) rfl rfl hl.1 rfl (lv_room (Nat.le_of_ble_eq_true rfl)) dX7_move_32 ⟨Nat.le_of_ble_eq_true rfl, Nat.le_of_ble_eq_true rfl⟩) hS (fun _ _ h => h) (fun _ h => h) (fun H locs hM _ _ hS => ?_)
      refine xb_eq (tgt := 52) hx hb dX7_move_35 (by decide) (fun _ => ?_) (fun c_3 => absurd c_3 (by decide))
      exact xw_vret hx hb hr hlocks hS (mJ_no (w := 2) hM (by first | (simp [kMv, c_1, c_2]; done) | (simp_all [kMv]; done) | (simp [kMv, c_1, c_2]; omega)) (by decide) rfl (PE.rf.sg 25 _ (by decide))) (Nat.le_refl _) (Nat.le_refl _) dX7_move_52
    · refine lv_iload_n hx hb dX7_move_20 rfl (lv_at hl 3 rfl) ?_
      refine xr_call (va_runS (As := [.int b]) (rest := [.ref M]) ⟨hx, hb, hml, hown, hts⟩ (c_X7_isEight l D cA b) (va_cwS 1 hts gX7_move_X7_isEight rfl rfl rfl (by decide +kernel) ⟨Nat.le_of_ble_eq_true rfl, Nat.le_of_ble_eq_true rfl⟩) (xPS hK trivial) rfl rfl hl.1 rfl (lv_room (Nat.le_of_ble_eq_true rfl)) dX7_move_21 ⟨Nat.le_of_ble_eq_true rfl, Nat.le_of_ble_eq_true rfl⟩) ?_
      refine xb_ne (tgt := 31) hx hb dX7_move_24 (by decide) (fun c_4 => ?_) (fun c_4 => ?_)
      · refine lv_iconst (v := 0) hx hb dX7_move_31 (by decide) ?_
        refine xw_calls (va_runV (As := [.int 0]) (rest := []) ⟨hx, hb, hml, hown, hts⟩ (c_X7_goes l D cA A M ad σ 0) (cwV 1 hts gX7_move_X7_goes rfl rfl rfl (by decide +kernel) ⟨Nat.le_of_ble_eq_true rfl, Nat.le_of_ble_eq_true rfl⟩) (xPV hK hM.1 rfl hM) rfl rfl hl.1 rfl (lv_room (Nat.le_of_ble_eq_true rfl)) dX7_move_32 ⟨Nat.le_of_ble_eq_true rfl, Nat.le_of_ble_eq_true rfl⟩) hS (fun _ _ h => h) (fun _ h => h) (fun H locs hM _ _ hS => ?_)
        refine xb_eq (tgt := 52) hx hb dX7_move_35 (by decide) (fun c_5 => absurd c_5 (by decide)) (fun _ => ?_)
        refine lv_aload_n hx hb dX7_move_38 rfl (lv_at hl 0 rfl) ?_
        refine m_get (v := .ref (ad 0)) hx hb hts h7 hown hK hM 0 (by decide) (hts (.fieldLink RX7 7 "ConfigBeaconModel" "regions" "[I") (by decide +kernel)) rfl dX7_move_39 ?_
        refine lv_iload_n hx hb dX7_move_42 rfl (lv_at hl 1 rfl) ?_
        refine lv_iload_n hx hb dX7_move_43 rfl (lv_at hl 2 rfl) ?_
        refine m_ast hx hb hK hM hS 0 (by decide) (n := 12) rfl j_k rfl (by omega) (by decide) dX7_move_44 (fun H locs hM hS => ?_)
        refine lv_aload_n hx hb dX7_move_45 rfl (lv_at hl 0 rfl) ?_
        refine m_get (v := .ref (ad 1)) hx hb hts h7 hown hK hM 1 (by decide) (hts (.fieldLink RX7 13 "ConfigBeaconModel" "groups" "[I") (by decide +kernel)) rfl dX7_move_46 ?_
        refine lv_iload_n hx hb dX7_move_49 rfl (lv_at hl 1 rfl) ?_
        refine lv_iload_n hx hb dX7_move_50 rfl (lv_at hl 3 rfl) ?_
        refine m_ast hx hb hK hM hS 1 (by decide) (n := 12) rfl j_k rfl (by omega) (by decide) dX7_move_51 (fun H locs hM hS => ?_)
        exact xw_vret hx hb hr hlocks hS (mJ_ok hM (by first | (simp [kMv, c_1, c_2, c_4]; done) | (simp_all [kMv]; done) | (simp [kMv, c_1, c_2, c_4]; omega)) rfl ⟨rfl, by unfold mvS; rw [ix_nI (j := j_k) (by omega)]; exact ⟨fun k q => by (simp only [List.mem_cons, List.not_mem_nil, or_false] at q; rcases q with rfl | rfl | rfl <;> rfl), fun _ _ => rfl⟩⟩) (Nat.le_refl _) (Nat.le_refl _) dX7_move_52
      · refine lv_iconst (v := 2) hx hb dX7_move_27 (by decide) ?_
        refine lv_goto (tgt := 32) hx hb dX7_move_28 (by decide) ?_
        refine xw_calls (va_runV (As := [.int 2]) (rest := []) ⟨hx, hb, hml, hown, hts⟩ (c_X7_goes l D cA A M ad σ 2) (cwV 1 hts gX7_move_X7_goes rfl rfl rfl (by decide +kernel) ⟨Nat.le_of_ble_eq_true rfl, Nat.le_of_ble_eq_true rfl⟩) (xPV hK hM.1 rfl hM) rfl rfl hl.1 rfl (lv_room (Nat.le_of_ble_eq_true rfl)) dX7_move_32 ⟨Nat.le_of_ble_eq_true rfl, Nat.le_of_ble_eq_true rfl⟩) hS (fun _ _ h => h) (fun _ h => h) (fun H locs hM _ _ hS => ?_)
        refine xb_eq (tgt := 52) hx hb dX7_move_35 (by decide) (fun _ => ?_) (fun c_6 => absurd c_6 (by decide))
        exact xw_vret hx hb hr hlocks hS (mJ_no (w := 2) hM (by first | (simp [kMv, c_1, c_2, c_4]; done) | (simp_all [kMv]; done) | (simp [kMv, c_1, c_2, c_4]; omega)) (by decide) rfl (PE.rf.sg 25 _ (by decide))) (Nat.le_refl _) (Nat.le_refl _) dX7_move_52
  · refine lv_iconst (v := 1) hx hb dX7_move_9 (by decide) ?_
    refine lv_goto (tgt := 32) hx hb dX7_move_10 (by decide) ?_
    refine xw_calls (va_runV (As := [.int 1]) (rest := []) ⟨hx, hb, hml, hown, hts⟩ (c_X7_goes l D cA A M ad σ 1) (cwV 1 hts gX7_move_X7_goes rfl rfl rfl (by decide +kernel) ⟨Nat.le_of_ble_eq_true rfl, Nat.le_of_ble_eq_true rfl⟩) (xPV hK hM.1 rfl hM) rfl rfl hl.1 rfl (lv_room (Nat.le_of_ble_eq_true rfl)) dX7_move_32 ⟨Nat.le_of_ble_eq_true rfl, Nat.le_of_ble_eq_true rfl⟩) hS (fun _ _ h => h) (fun _ h => h) (fun H locs hM _ _ hS => ?_)
    refine xb_eq (tgt := 52) hx hb dX7_move_35 (by decide) (fun _ => ?_) (fun c_7 => absurd c_7 (by decide))
    exact xw_vret hx hb hr hlocks hS (mJ_no (w := 1) hM (by first | (simp [kMv, c_1]; done) | (simp_all [kMv]; done) | (simp [kMv, c_1]; omega)) (by decide) rfl (PE.rf.sg 25 _ (by decide))) (Nat.le_refl _) (Nat.le_refl _) dX7_move_52
set_option maxHeartbeats 4000000 in
set_option maxRecDepth 100000 in
theorem c_X7_clients (l : Launch) (D : va_G) (cA : Nat → ClassId) (A : Nat → Prop) (M : Nat) (ad : Nat → Nat) (σ : MS)  (nC : Nat) (hC : σ.1 2 = nI nC) (hC2 : nC ≤ 12) : Met l yX7_clients wsX7_clients (rmK 0 0 0) (xP D cA [.ref M] (MR D cA A M ad σ)) (xW (mJ D cA A M ad σ 0 (fun r τ => r = some (.int (nI nC)) ∧ PE τ σ)) A) 0 0 A := by
  refine Met.ofW (cc := cX7_clients) (maxL := 1) (ret := (some .int)) (by decide) rfl ?_
  intro p e s m args below meth c s₁ B hml hv
  obtain ⟨rfl, hK, hI⟩ := hv
  have hx := B.exec
  have hb := B.bytes
  have hr := B.returns
  have hts := atoms_spec (ws := wsX7_clients) B.pre
  have hown : s.vm.findClass RX7 = some m.cls := findClass_of_methodNamed B.named
  have hlocks := B.notSynchronized
  have hl := lv_entry ([.ref M]) (n := 1) (Nat.le_of_ble_eq_true rfl)
  rw [lg_entry_eq]
  generalize (lg_sl ([.ref M]) ++ List.replicate (1 - (lg_sl ([.ref M])).length) Slot.unset).toArray = ls at hl ⊢
  have hl : lv_has ls 1 [(0, .ref M)] := hl
  have hM : MR D cA A M ad σ s.heap := hI
  have h7 : ∀ w ∈ wsX70, w ∈ wsX7_clients := fun _ h => List.mem_cons_of_mem _ (List.mem_append_right _ h)
  have hS : va_S A s.heap s.heap [] := va_S.rf
  refine lv_aload_n hx hb dX7_clients_0 rfl (lv_at hl 0 rfl) ?_
  refine lv_iconst (v := 0) hx hb dX7_clients_1 (by decide) ?_
  refine m_put hx hb hts h7 hown hK hM hS 25 (by decide) (by decide) (hts (.fieldLink RX7 60 "ConfigBeaconModel" "thrown" "I") (by decide +kernel)) rfl rfl dX7_clients_2 (fun H locs hM hS => ?_)
  refine lv_aload_n hx hb dX7_clients_5 rfl (lv_at hl 0 rfl) ?_
  refine m_get (v := .int (nI nC)) hx hb hts h7 hown hK hM 2 (by decide) (hts (.fieldLink RX7 64 "ConfigBeaconModel" "clients" "I") (by decide +kernel)) (by show some (Value.int (σ.1 2)) = _; rw [hC]) dX7_clients_6 ?_
  exact xw_iret hx hb hr hlocks hS (mJ_ok hM rfl rfl ⟨rfl, ⟨fun k q => by (simp only [List.mem_cons, List.not_mem_nil, or_false] at q; rcases q with rfl | rfl | rfl <;> rfl), fun _ _ => rfl⟩⟩) (Nat.le_refl _) (Nat.le_refl _) dX7_clients_9
set_option maxHeartbeats 4000000 in
set_option maxRecDepth 100000 in
theorem c_X7_layers (l : Launch) (D : va_G) (cA : Nat → ClassId) (A : Nat → Prop) (M : Nat) (ad : Nat → Nat) (σ : MS)  (nL : Nat) (hL : σ.1 6 = nI nL) (hL2 : nL ≤ 8) : Met l yX7_layers wsX7_layers (rmK 0 0 0) (xP D cA [.ref M] (MR D cA A M ad σ)) (xW (mJ D cA A M ad σ 0 (fun r τ => r = some (.int (nI nL)) ∧ PE τ σ)) A) 0 0 A := by
  refine Met.ofW (cc := cX7_layers) (maxL := 1) (ret := (some .int)) (by decide) rfl ?_
  intro p e s m args below meth c s₁ B hml hv
  obtain ⟨rfl, hK, hI⟩ := hv
  have hx := B.exec
  have hb := B.bytes
  have hr := B.returns
  have hts := atoms_spec (ws := wsX7_layers) B.pre
  have hown : s.vm.findClass RX7 = some m.cls := findClass_of_methodNamed B.named
  have hlocks := B.notSynchronized
  have hl := lv_entry ([.ref M]) (n := 1) (Nat.le_of_ble_eq_true rfl)
  rw [lg_entry_eq]
  generalize (lg_sl ([.ref M]) ++ List.replicate (1 - (lg_sl ([.ref M])).length) Slot.unset).toArray = ls at hl ⊢
  have hl : lv_has ls 1 [(0, .ref M)] := hl
  have hM : MR D cA A M ad σ s.heap := hI
  have h7 : ∀ w ∈ wsX70, w ∈ wsX7_layers := fun _ h => List.mem_cons_of_mem _ (List.mem_append_right _ h)
  have hS : va_S A s.heap s.heap [] := va_S.rf
  refine lv_aload_n hx hb dX7_layers_0 rfl (lv_at hl 0 rfl) ?_
  refine lv_iconst (v := 0) hx hb dX7_layers_1 (by decide) ?_
  refine m_put hx hb hts h7 hown hK hM hS 25 (by decide) (by decide) (hts (.fieldLink RX7 60 "ConfigBeaconModel" "thrown" "I") (by decide +kernel)) rfl rfl dX7_layers_2 (fun H locs hM hS => ?_)
  refine lv_aload_n hx hb dX7_layers_5 rfl (lv_at hl 0 rfl) ?_
  refine m_get (v := .int (nI nL)) hx hb hts h7 hown hK hM 6 (by decide) (hts (.fieldLink RX7 71 "ConfigBeaconModel" "layers" "I") (by decide +kernel)) (by show some (Value.int (σ.1 6)) = _; rw [hL]) dX7_layers_6 ?_
  exact xw_iret hx hb hr hlocks hS (mJ_ok hM rfl rfl ⟨rfl, ⟨fun k q => by (simp only [List.mem_cons, List.not_mem_nil, or_false] at q; rcases q with rfl | rfl | rfl <;> rfl), fun _ _ => rfl⟩⟩) (Nat.le_refl _) (Nat.le_refl _) dX7_layers_9
set_option maxHeartbeats 4000000 in
set_option maxRecDepth 100000 in
theorem c_X7_version (l : Launch) (D : va_G) (cA : Nat → ClassId) (A : Nat → Prop) (M : Nat) (ad : Nat → Nat) (σ : MS)  (nV : Nat) (hV : σ.1 13 = nI nV) (hV2 : nV < 512) : Met l yX7_version wsX7_version (rmK 0 0 0) (xP D cA [.ref M] (MR D cA A M ad σ)) (xW (mJ D cA A M ad σ 0 (fun r τ => r = some (.int (nI nV)) ∧ PE τ σ)) A) 0 0 A := by
  refine Met.ofW (cc := cX7_version) (maxL := 1) (ret := (some .int)) (by decide) rfl ?_
  intro p e s m args below meth c s₁ B hml hv
  obtain ⟨rfl, hK, hI⟩ := hv
  have hx := B.exec
  have hb := B.bytes
  have hr := B.returns
  have hts := atoms_spec (ws := wsX7_version) B.pre
  have hown : s.vm.findClass RX7 = some m.cls := findClass_of_methodNamed B.named
  have hlocks := B.notSynchronized
  have hl := lv_entry ([.ref M]) (n := 1) (Nat.le_of_ble_eq_true rfl)
  rw [lg_entry_eq]
  generalize (lg_sl ([.ref M]) ++ List.replicate (1 - (lg_sl ([.ref M])).length) Slot.unset).toArray = ls at hl ⊢
  have hl : lv_has ls 1 [(0, .ref M)] := hl
  have hM : MR D cA A M ad σ s.heap := hI
  have h7 : ∀ w ∈ wsX70, w ∈ wsX7_version := fun _ h => List.mem_cons_of_mem _ (List.mem_append_right _ h)
  have hS : va_S A s.heap s.heap [] := va_S.rf
  refine lv_aload_n hx hb dX7_version_0 rfl (lv_at hl 0 rfl) ?_
  refine lv_iconst (v := 0) hx hb dX7_version_1 (by decide) ?_
  refine m_put hx hb hts h7 hown hK hM hS 25 (by decide) (by decide) (hts (.fieldLink RX7 60 "ConfigBeaconModel" "thrown" "I") (by decide +kernel)) rfl rfl dX7_version_2 (fun H locs hM hS => ?_)
  refine lv_aload_n hx hb dX7_version_5 rfl (lv_at hl 0 rfl) ?_
  refine m_get (v := .int (nI nV)) hx hb hts h7 hown hK hM 13 (by decide) (hts (.fieldLink RX7 94 "ConfigBeaconModel" "version" "I") (by decide +kernel)) (by show some (Value.int (σ.1 13)) = _; rw [hV]) dX7_version_6 ?_
  exact xw_iret hx hb hr hlocks hS (mJ_ok hM rfl rfl ⟨rfl, ⟨fun k q => by (simp only [List.mem_cons, List.not_mem_nil, or_false] at q; rcases q with rfl | rfl | rfl <;> rfl), fun _ _ => rfl⟩⟩) (Nat.le_refl _) (Nat.le_refl _) dX7_version_9
set_option maxHeartbeats 4000000 in
set_option maxRecDepth 100000 in
theorem c_X7_layer (l : Launch) (D : va_G) (cA : Nat → ClassId) (A : Nat → Prop) (M : Nat) (ad : Nat → Nat) (σ : MS) (pv : Int32) (q : Int32) (w : Int32) (nL : Nat) (hL : σ.1 6 = nI nL) (hL2 : nL ≤ 8) : Met l yX7_layer wsX7_layer (rmK 2 0 0) (xP D cA [.ref M, .int pv, .int q, .int w] (MR D cA A M ad σ)) (xW (mJ D cA A M ad σ (kLy nL pv q w) (fun r τ => r = some (.int (nI nL)) ∧ PE τ (lyS σ nL pv q w))) A) 0 0 A := by
  refine Met.ofW (cc := cX7_layer) (maxL := 5) (ret := (some .int)) (by decide) rfl ?_
  intro p e s m args below meth c s₁ B hml hv
  obtain ⟨rfl, hK, hI⟩ := hv
  have hx := B.exec
  have hb := B.bytes
  have hr := B.returns
  have hts := atoms_spec (ws := wsX7_layer) B.pre
  have hown : s.vm.findClass RX7 = some m.cls := findClass_of_methodNamed B.named
  have hlocks := B.notSynchronized
  have hl := lv_entry ([.ref M, .int pv, .int q, .int w]) (n := 5) (Nat.le_of_ble_eq_true rfl)
  rw [lg_entry_eq]
  generalize (lg_sl ([.ref M, .int pv, .int q, .int w]) ++ List.replicate (5 - (lg_sl ([.ref M, .int pv, .int q, .int w])).length) Slot.unset).toArray = ls at hl ⊢
  have hl : lv_has ls 5 [(0, .ref M), (1, .int pv), (2, .int q), (3, .int w)] := hl
  have hM : MR D cA A M ad σ s.heap := hI
  have h7 : ∀ w ∈ wsX70, w ∈ wsX7_layer := fun _ h => List.mem_cons_of_mem _ (List.mem_append_right _ h)
  have hS : va_S A s.heap s.heap [] := va_S.rf
  refine lv_iload_n hx hb dX7_layer_0 rfl (lv_at hl 2 rfl) ?_
  refine lv_if_ne (tgt := 8) hx hb dX7_layer_1 (by decide) (fun c_1 => ?_) (fun c_1 => ?_)
  · refine lv_iload_n hx hb dX7_layer_8 rfl (lv_at hl 2 rfl) ?_
    refine lv_iconst (v := 3) hx hb dX7_layer_9 (by decide) ?_
    refine lv_icmp_ne (tgt := 18) hx hb dX7_layer_10 (by decide) (fun c_2 => ?_) (fun c_2 => ?_)
    · refine lv_bipush (v := 7) hx hb dX7_layer_18 (by decide) ?_
      refine lv_istore (lv' := [(4, .int 7), (0, .ref M), (1, .int pv), (2, .int q), (3, .int w)]) hx hb dX7_layer_20 hl (by decide) rfl (fun ls hl => ?_)
      refine lv_aload_n hx hb dX7_layer_22 rfl (lv_at hl 1 rfl) ?_
      refine lv_iload_n hx hb dX7_layer_23 rfl (lv_at hl 2 rfl) ?_
      refine lv_iconst (v := 0) hx hb dX7_layer_24 (by decide) ?_
      refine lv_bipush (v := 99) hx hb dX7_layer_25 (by decide) ?_
      refine xr_call (va_runS (As := [.int pv, .int 0, .int 99]) (rest := [.ref M]) ⟨hx, hb, hml, hown, hts⟩ (c_X7_isIn l D cA pv 0 99) (va_cwS 3 hts gX7_layer_X7_isIn rfl rfl rfl (by decide +kernel) ⟨Nat.le_of_ble_eq_true rfl, Nat.le_of_ble_eq_true rfl⟩) (xPS hK trivial) rfl rfl hl.1 rfl (lv_room (Nat.le_of_ble_eq_true rfl)) dX7_layer_27 ⟨Nat.le_of_ble_eq_true rfl, Nat.le_of_ble_eq_true rfl⟩) ?_
      refine xb_eq (tgt := 52) hx hb dX7_layer_30 (by decide) (fun c_3 => ?_) (fun c_3 => ?_)
      · refine lv_iconst (v := 1) hx hb dX7_layer_52 (by decide) ?_
        refine lv_goto (tgt := 70) hx hb dX7_layer_53 (by decide) ?_
        refine xw_calls (va_runV (As := [.int 1]) (rest := []) ⟨hx, hb, hml, hown, hts⟩ (c_X7_goes l D cA A M ad σ 1) (cwV 1 hts gX7_layer_X7_goes rfl rfl rfl (by decide +kernel) ⟨Nat.le_of_ble_eq_true rfl, Nat.le_of_ble_eq_true rfl⟩) (xPV hK hM.1 rfl hM) rfl rfl hl.1 rfl (lv_room (Nat.le_of_ble_eq_true rfl)) dX7_layer_70 ⟨Nat.le_of_ble_eq_true rfl, Nat.le_of_ble_eq_true rfl⟩) hS (fun _ _ h => h) (fun _ h => h) (fun H locs hM _ _ hS => ?_)
        refine xb_ne (tgt := 78) hx hb dX7_layer_73 (by decide) (fun c_4 => absurd c_4 (by decide)) (fun _ => ?_)
        refine lv_iconst (v := 0) hx hb dX7_layer_76 (by decide) ?_
        exact xw_iret hx hb hr hlocks hS (mJ_no (w := 1) hM (by first | (simp [kLy, mostF, c_1, c_2, c_3]; done) | (simp_all [kLy, mostF]; done) | (simp [kLy, mostF, c_1, c_2, c_3]; omega)) (by decide) rfl (PE.rf.sg 25 _ (by decide))) (Nat.le_refl _) (Nat.le_refl _) dX7_layer_77
      · refine lv_iload_n hx hb dX7_layer_33 rfl (lv_at hl 3 rfl) ?_
        refine lv_iconst (v := 0) hx hb dX7_layer_34 (by decide) ?_
        refine lv_iconst (v := 3) hx hb dX7_layer_35 (by decide) ?_
        refine xr_call (va_runS (As := [.int q, .int 0, .int 3]) (rest := [.ref M]) ⟨hx, hb, hml, hown, hts⟩ (c_X7_isIn l D cA q 0 3) (va_cwS 3 hts gX7_layer_X7_isIn rfl rfl rfl (by decide +kernel) ⟨Nat.le_of_ble_eq_true rfl, Nat.le_of_ble_eq_true rfl⟩) (xPS hK trivial) rfl rfl hl.1 rfl (lv_room (Nat.le_of_ble_eq_true rfl)) dX7_layer_36 ⟨Nat.le_of_ble_eq_true rfl, Nat.le_of_ble_eq_true rfl⟩) ?_
        refine xb_eq (tgt := 52) hx hb dX7_layer_39 (by decide) (fun c_5 => ?_) (fun c_5 => ?_)
        · refine lv_iconst (v := 1) hx hb dX7_layer_52 (by decide) ?_
          refine lv_goto (tgt := 70) hx hb dX7_layer_53 (by decide) ?_
          refine xw_calls (va_runV (As := [.int 1]) (rest := []) ⟨hx, hb, hml, hown, hts⟩ (c_X7_goes l D cA A M ad σ 1) (cwV 1 hts gX7_layer_X7_goes rfl rfl rfl (by decide +kernel) ⟨Nat.le_of_ble_eq_true rfl, Nat.le_of_ble_eq_true rfl⟩) (xPV hK hM.1 rfl hM) rfl rfl hl.1 rfl (lv_room (Nat.le_of_ble_eq_true rfl)) dX7_layer_70 ⟨Nat.le_of_ble_eq_true rfl, Nat.le_of_ble_eq_true rfl⟩) hS (fun _ _ h => h) (fun _ h => h) (fun H locs hM _ _ hS => ?_)
          refine xb_ne (tgt := 78) hx hb dX7_layer_73 (by decide) (fun c_6 => absurd c_6 (by decide)) (fun _ => ?_)
          refine lv_iconst (v := 0) hx hb dX7_layer_76 (by decide) ?_
          exact xw_iret hx hb hr hlocks hS (mJ_no (w := 1) hM (by first | (simp [kLy, mostF, c_1, c_2, c_3, c_5]; done) | (simp_all [kLy, mostF]; done) | (simp [kLy, mostF, c_1, c_2, c_3, c_5]; omega)) (by decide) rfl (PE.rf.sg 25 _ (by decide))) (Nat.le_refl _) (Nat.le_refl _) dX7_layer_77
        · refine lv_iload_n hx hb dX7_layer_42 rfl (lv_at hl 4 rfl) ?_
          refine lv_iconst (v := 0) hx hb dX7_layer_43 (by decide) ?_
          refine lv_iload hx hb dX7_layer_44 (lv_at hl 0 rfl) ?_
          refine xr_call (va_runS (As := [.int w, .int 0, .int 7]) (rest := [.ref M]) ⟨hx, hb, hml, hown, hts⟩ (c_X7_isIn l D cA w 0 7) (va_cwS 3 hts gX7_layer_X7_isIn rfl rfl rfl (by decide +kernel) ⟨Nat.le_of_ble_eq_true rfl, Nat.le_of_ble_eq_true rfl⟩) (xPS hK trivial) rfl rfl hl.1 rfl (lv_room (Nat.le_of_ble_eq_true rfl)) dX7_layer_46 ⟨Nat.le_of_ble_eq_true rfl, Nat.le_of_ble_eq_true rfl⟩) ?_
          refine xb_ne (tgt := 56) hx hb dX7_layer_49 (by decide) (fun c_7 => ?_) (fun c_7 => ?_)
          · refine lv_aload_n hx hb dX7_layer_56 rfl (lv_at hl 1 rfl) ?_
            refine m_get (v := .int (nI nL)) hx hb hts h7 hown hK hM 6 (by decide) (hts (.fieldLink RX7 71 "ConfigBeaconModel" "layers" "I") (by decide +kernel)) (by show some (Value.int (σ.1 6)) = _; rw [hL]) dX7_layer_57 ?_
            refine lv_bipush (v := 8) hx hb dX7_layer_60 (by decide) ?_
            refine lv_icmp_ne (tgt := 69) hx hb dX7_layer_62 (by decide) (fun c_8 => ?_) (fun c_8 => ?_)
            · have n_8 : ¬ nL = 8 := fun q => c_8 ((nI_eq (a := nL) (b := 8) (by omega) (by omega)).mpr q)
              have hlt : nL < 8 := by
                rcases Nat.lt_or_ge nL 8 with h | h
                · exact h
                · exact absurd (show nI nL = 8 by rw [show nL = 8 by omega]; rfl) c_8
              refine lv_iconst (v := 0) hx hb dX7_layer_69 (by decide) ?_
              refine xw_calls (va_runV (As := [.int 0]) (rest := []) ⟨hx, hb, hml, hown, hts⟩ (c_X7_goes l D cA A M ad σ 0) (cwV 1 hts gX7_layer_X7_goes rfl rfl rfl (by decide +kernel) ⟨Nat.le_of_ble_eq_true rfl, Nat.le_of_ble_eq_true rfl⟩) (xPV hK hM.1 rfl hM) rfl rfl hl.1 rfl (lv_room (Nat.le_of_ble_eq_true rfl)) dX7_layer_70 ⟨Nat.le_of_ble_eq_true rfl, Nat.le_of_ble_eq_true rfl⟩) hS (fun _ _ h => h) (fun _ h => h) (fun H locs hM _ _ hS => ?_)
              refine xb_ne (tgt := 78) hx hb dX7_layer_73 (by decide) (fun _ => ?_) (fun c_9 => absurd c_9 (by decide))
              refine lv_aload_n hx hb dX7_layer_78 rfl (lv_at hl 1 rfl) ?_
              refine m_get (v := .ref (ad 3)) hx hb hts h7 hown hK hM 3 (by decide) (hts (.fieldLink RX7 16 "ConfigBeaconModel" "precedences" "[I") (by decide +kernel)) rfl dX7_layer_79 ?_
              refine lv_aload_n hx hb dX7_layer_82 rfl (lv_at hl 1 rfl) ?_
              refine m_get (v := .int (nI nL)) hx hb hts h7 hown hK hM 6 (by decide) (hts (.fieldLink RX7 71 "ConfigBeaconModel" "layers" "I") (by decide +kernel)) (by show some (Value.int (σ.1 6)) = _; rw [hL]) dX7_layer_83 ?_
              refine lv_iload_n hx hb dX7_layer_86 rfl (lv_at hl 2 rfl) ?_
              refine m_ast hx hb hK hM hS 3 (by decide) (n := 8) rfl nL rfl (by omega) (by decide) dX7_layer_87 (fun H locs hM hS => ?_)
              refine lv_aload_n hx hb dX7_layer_88 rfl (lv_at hl 1 rfl) ?_
              refine m_get (v := .ref (ad 4)) hx hb hts h7 hown hK hM 4 (by decide) (hts (.fieldLink RX7 19 "ConfigBeaconModel" "selectors" "[I") (by decide +kernel)) rfl dX7_layer_89 ?_
              refine lv_aload_n hx hb dX7_layer_92 rfl (lv_at hl 1 rfl) ?_
              refine m_get (v := .int (nI nL)) hx hb hts h7 hown hK hM 6 (by decide) (hts (.fieldLink RX7 71 "ConfigBeaconModel" "layers" "I") (by decide +kernel)) (by show some (Value.int (σ.1 6)) = _; rw [hL]) dX7_layer_93 ?_
              refine lv_iload_n hx hb dX7_layer_96 rfl (lv_at hl 3 rfl) ?_
              refine m_ast hx hb hK hM hS 4 (by decide) (n := 8) rfl nL rfl (by omega) (by decide) dX7_layer_97 (fun H locs hM hS => ?_)
              refine lv_aload_n hx hb dX7_layer_98 rfl (lv_at hl 1 rfl) ?_
              refine m_get (v := .ref (ad 5)) hx hb hts h7 hown hK hM 5 (by decide) (hts (.fieldLink RX7 22 "ConfigBeaconModel" "whiches" "[I") (by decide +kernel)) rfl dX7_layer_99 ?_
              refine lv_aload_n hx hb dX7_layer_102 rfl (lv_at hl 1 rfl) ?_
              refine m_get (v := .int (nI nL)) hx hb hts h7 hown hK hM 6 (by decide) (hts (.fieldLink RX7 71 "ConfigBeaconModel" "layers" "I") (by decide +kernel)) (by show some (Value.int (σ.1 6)) = _; rw [hL]) dX7_layer_103 ?_
              refine lv_iload_n hx hb dX7_layer_106 rfl (lv_at hl 4 rfl) ?_
              refine m_ast hx hb hK hM hS 5 (by decide) (n := 8) rfl nL rfl (by omega) (by decide) dX7_layer_107 (fun H locs hM hS => ?_)
              refine lv_aload_n hx hb dX7_layer_108 rfl (lv_at hl 1 rfl) ?_
              refine lv_dup hx hb dX7_layer_109 rfl ?_
              refine m_get (v := .int (nI nL)) hx hb hts h7 hown hK hM 6 (by decide) (hts (.fieldLink RX7 71 "ConfigBeaconModel" "layers" "I") (by decide +kernel)) (by show some (Value.int (σ.1 6)) = _; rw [hL]) dX7_layer_110 ?_
              refine lv_iconst (v := 1) hx hb dX7_layer_113 (by decide) ?_
              refine xe_iadd hx hb (nI_add nL 1) dX7_layer_114 ?_
              refine m_put hx hb hts h7 hown hK hM hS 6 (by decide) (by decide) (hts (.fieldLink RX7 71 "ConfigBeaconModel" "layers" "I") (by decide +kernel)) rfl rfl dX7_layer_115 (fun H locs hM hS => ?_)
              refine lv_aload_n hx hb dX7_layer_118 rfl (lv_at hl 1 rfl) ?_
              refine m_get (v := .int (nI (nL + 1))) hx hb hts h7 hown hK hM 6 (by decide) (hts (.fieldLink RX7 71 "ConfigBeaconModel" "layers" "I") (by decide +kernel)) rfl dX7_layer_119 ?_
              refine lv_iconst (v := 1) hx hb dX7_layer_122 (by decide) ?_
              refine xe_isub hx hb (pk_sub (show 1 ≤ (nL + 1) by omega)) dX7_layer_123 ?_
              exact xw_iret hx hb hr hlocks hS (mJ_ok hM (by first | (simp [kLy, mostF, c_1, c_2, c_3, c_5, c_7, c_8, n_8]; done) | (simp_all [kLy, mostF]; done) | (simp [kLy, mostF, c_1, c_2, c_3, c_5, c_7, c_8, n_8]; omega)) rfl ⟨rfl, ⟨fun k q => by (simp only [List.mem_cons, List.not_mem_nil, or_false] at q; rcases q with rfl | rfl | rfl <;> rfl), fun _ _ => rfl⟩⟩) (Nat.le_refl _) (Nat.le_refl _) dX7_layer_124
            · have n_8 : nL = 8 := (nI_eq (a := nL) (b := 8) (by omega) (by omega)).mp c_8
              refine lv_iconst (v := 2) hx hb dX7_layer_65 (by decide) ?_
              refine lv_goto (tgt := 70) hx hb dX7_layer_66 (by decide) ?_
              refine xw_calls (va_runV (As := [.int 2]) (rest := []) ⟨hx, hb, hml, hown, hts⟩ (c_X7_goes l D cA A M ad σ 2) (cwV 1 hts gX7_layer_X7_goes rfl rfl rfl (by decide +kernel) ⟨Nat.le_of_ble_eq_true rfl, Nat.le_of_ble_eq_true rfl⟩) (xPV hK hM.1 rfl hM) rfl rfl hl.1 rfl (lv_room (Nat.le_of_ble_eq_true rfl)) dX7_layer_70 ⟨Nat.le_of_ble_eq_true rfl, Nat.le_of_ble_eq_true rfl⟩) hS (fun _ _ h => h) (fun _ h => h) (fun H locs hM _ _ hS => ?_)
              refine xb_ne (tgt := 78) hx hb dX7_layer_73 (by decide) (fun c_10 => absurd c_10 (by decide)) (fun _ => ?_)
              refine lv_iconst (v := 0) hx hb dX7_layer_76 (by decide) ?_
              exact xw_iret hx hb hr hlocks hS (mJ_no (w := 2) hM (by first | (simp [kLy, mostF, c_1, c_2, c_3, c_5, c_7, c_8, n_8]; done) | (simp_all [kLy, mostF]; done) | (simp [kLy, mostF, c_1, c_2, c_3, c_5, c_7, c_8, n_8]; omega)) (by decide) rfl (PE.rf.sg 25 _ (by decide))) (Nat.le_refl _) (Nat.le_refl _) dX7_layer_77
          · refine lv_iconst (v := 1) hx hb dX7_layer_52 (by decide) ?_
            refine lv_goto (tgt := 70) hx hb dX7_layer_53 (by decide) ?_
            refine xw_calls (va_runV (As := [.int 1]) (rest := []) ⟨hx, hb, hml, hown, hts⟩ (c_X7_goes l D cA A M ad σ 1) (cwV 1 hts gX7_layer_X7_goes rfl rfl rfl (by decide +kernel) ⟨Nat.le_of_ble_eq_true rfl, Nat.le_of_ble_eq_true rfl⟩) (xPV hK hM.1 rfl hM) rfl rfl hl.1 rfl (lv_room (Nat.le_of_ble_eq_true rfl)) dX7_layer_70 ⟨Nat.le_of_ble_eq_true rfl, Nat.le_of_ble_eq_true rfl⟩) hS (fun _ _ h => h) (fun _ h => h) (fun H locs hM _ _ hS => ?_)
            refine xb_ne (tgt := 78) hx hb dX7_layer_73 (by decide) (fun c_11 => absurd c_11 (by decide)) (fun _ => ?_)
            refine lv_iconst (v := 0) hx hb dX7_layer_76 (by decide) ?_
            exact xw_iret hx hb hr hlocks hS (mJ_no (w := 1) hM (by first | (simp [kLy, mostF, c_1, c_2, c_3, c_5, c_7]; done) | (simp_all [kLy, mostF]; done) | (simp [kLy, mostF, c_1, c_2, c_3, c_5, c_7]; omega)) (by decide) rfl (PE.rf.sg 25 _ (by decide))) (Nat.le_refl _) (Nat.le_refl _) dX7_layer_77
    · refine lv_bipush (v := 11) hx hb dX7_layer_13 (by decide) ?_
      refine lv_goto (tgt := 20) hx hb dX7_layer_15 (by decide) ?_
      refine lv_istore (lv' := [(4, .int 11), (0, .ref M), (1, .int pv), (2, .int q), (3, .int w)]) hx hb dX7_layer_20 hl (by decide) rfl (fun ls hl => ?_)
      refine lv_aload_n hx hb dX7_layer_22 rfl (lv_at hl 1 rfl) ?_
      refine lv_iload_n hx hb dX7_layer_23 rfl (lv_at hl 2 rfl) ?_
      refine lv_iconst (v := 0) hx hb dX7_layer_24 (by decide) ?_
      refine lv_bipush (v := 99) hx hb dX7_layer_25 (by decide) ?_
      refine xr_call (va_runS (As := [.int pv, .int 0, .int 99]) (rest := [.ref M]) ⟨hx, hb, hml, hown, hts⟩ (c_X7_isIn l D cA pv 0 99) (va_cwS 3 hts gX7_layer_X7_isIn rfl rfl rfl (by decide +kernel) ⟨Nat.le_of_ble_eq_true rfl, Nat.le_of_ble_eq_true rfl⟩) (xPS hK trivial) rfl rfl hl.1 rfl (lv_room (Nat.le_of_ble_eq_true rfl)) dX7_layer_27 ⟨Nat.le_of_ble_eq_true rfl, Nat.le_of_ble_eq_true rfl⟩) ?_
      refine xb_eq (tgt := 52) hx hb dX7_layer_30 (by decide) (fun c_12 => ?_) (fun c_12 => ?_)
      · refine lv_iconst (v := 1) hx hb dX7_layer_52 (by decide) ?_
        refine lv_goto (tgt := 70) hx hb dX7_layer_53 (by decide) ?_
        refine xw_calls (va_runV (As := [.int 1]) (rest := []) ⟨hx, hb, hml, hown, hts⟩ (c_X7_goes l D cA A M ad σ 1) (cwV 1 hts gX7_layer_X7_goes rfl rfl rfl (by decide +kernel) ⟨Nat.le_of_ble_eq_true rfl, Nat.le_of_ble_eq_true rfl⟩) (xPV hK hM.1 rfl hM) rfl rfl hl.1 rfl (lv_room (Nat.le_of_ble_eq_true rfl)) dX7_layer_70 ⟨Nat.le_of_ble_eq_true rfl, Nat.le_of_ble_eq_true rfl⟩) hS (fun _ _ h => h) (fun _ h => h) (fun H locs hM _ _ hS => ?_)
        refine xb_ne (tgt := 78) hx hb dX7_layer_73 (by decide) (fun c_13 => absurd c_13 (by decide)) (fun _ => ?_)
        refine lv_iconst (v := 0) hx hb dX7_layer_76 (by decide) ?_
        exact xw_iret hx hb hr hlocks hS (mJ_no (w := 1) hM (by first | (simp [kLy, mostF, c_1, c_2, c_12]; done) | (simp_all [kLy, mostF]; done) | (simp [kLy, mostF, c_1, c_2, c_12]; omega)) (by decide) rfl (PE.rf.sg 25 _ (by decide))) (Nat.le_refl _) (Nat.le_refl _) dX7_layer_77
      · refine lv_iload_n hx hb dX7_layer_33 rfl (lv_at hl 3 rfl) ?_
        refine lv_iconst (v := 0) hx hb dX7_layer_34 (by decide) ?_
        refine lv_iconst (v := 3) hx hb dX7_layer_35 (by decide) ?_
        refine xr_call (va_runS (As := [.int q, .int 0, .int 3]) (rest := [.ref M]) ⟨hx, hb, hml, hown, hts⟩ (c_X7_isIn l D cA q 0 3) (va_cwS 3 hts gX7_layer_X7_isIn rfl rfl rfl (by decide +kernel) ⟨Nat.le_of_ble_eq_true rfl, Nat.le_of_ble_eq_true rfl⟩) (xPS hK trivial) rfl rfl hl.1 rfl (lv_room (Nat.le_of_ble_eq_true rfl)) dX7_layer_36 ⟨Nat.le_of_ble_eq_true rfl, Nat.le_of_ble_eq_true rfl⟩) ?_
        refine xb_eq (tgt := 52) hx hb dX7_layer_39 (by decide) (fun c_14 => ?_) (fun c_14 => ?_)
        · refine lv_iconst (v := 1) hx hb dX7_layer_52 (by decide) ?_
          refine lv_goto (tgt := 70) hx hb dX7_layer_53 (by decide) ?_
          refine xw_calls (va_runV (As := [.int 1]) (rest := []) ⟨hx, hb, hml, hown, hts⟩ (c_X7_goes l D cA A M ad σ 1) (cwV 1 hts gX7_layer_X7_goes rfl rfl rfl (by decide +kernel) ⟨Nat.le_of_ble_eq_true rfl, Nat.le_of_ble_eq_true rfl⟩) (xPV hK hM.1 rfl hM) rfl rfl hl.1 rfl (lv_room (Nat.le_of_ble_eq_true rfl)) dX7_layer_70 ⟨Nat.le_of_ble_eq_true rfl, Nat.le_of_ble_eq_true rfl⟩) hS (fun _ _ h => h) (fun _ h => h) (fun H locs hM _ _ hS => ?_)
          refine xb_ne (tgt := 78) hx hb dX7_layer_73 (by decide) (fun c_15 => absurd c_15 (by decide)) (fun _ => ?_)
          refine lv_iconst (v := 0) hx hb dX7_layer_76 (by decide) ?_
          exact xw_iret hx hb hr hlocks hS (mJ_no (w := 1) hM (by first | (simp [kLy, mostF, c_1, c_2, c_12, c_14]; done) | (simp_all [kLy, mostF]; done) | (simp [kLy, mostF, c_1, c_2, c_12, c_14]; omega)) (by decide) rfl (PE.rf.sg 25 _ (by decide))) (Nat.le_refl _) (Nat.le_refl _) dX7_layer_77
        · refine lv_iload_n hx hb dX7_layer_42 rfl (lv_at hl 4 rfl) ?_
          refine lv_iconst (v := 0) hx hb dX7_layer_43 (by decide) ?_
          refine lv_iload hx hb dX7_layer_44 (lv_at hl 0 rfl) ?_
          refine xr_call (va_runS (As := [.int w, .int 0, .int 11]) (rest := [.ref M]) ⟨hx, hb, hml, hown, hts⟩ (c_X7_isIn l D cA w 0 11) (va_cwS 3 hts gX7_layer_X7_isIn rfl rfl rfl (by decide +kernel) ⟨Nat.le_of_ble_eq_true rfl, Nat.le_of_ble_eq_true rfl⟩) (xPS hK trivial) rfl rfl hl.1 rfl (lv_room (Nat.le_of_ble_eq_true rfl)) dX7_layer_46 ⟨Nat.le_of_ble_eq_true rfl, Nat.le_of_ble_eq_true rfl⟩) ?_
          refine xb_ne (tgt := 56) hx hb dX7_layer_49 (by decide) (fun c_16 => ?_) (fun c_16 => ?_)
          · refine lv_aload_n hx hb dX7_layer_56 rfl (lv_at hl 1 rfl) ?_
            refine m_get (v := .int (nI nL)) hx hb hts h7 hown hK hM 6 (by decide) (hts (.fieldLink RX7 71 "ConfigBeaconModel" "layers" "I") (by decide +kernel)) (by show some (Value.int (σ.1 6)) = _; rw [hL]) dX7_layer_57 ?_
            refine lv_bipush (v := 8) hx hb dX7_layer_60 (by decide) ?_
            refine lv_icmp_ne (tgt := 69) hx hb dX7_layer_62 (by decide) (fun c_17 => ?_) (fun c_17 => ?_)
            · have n_17 : ¬ nL = 8 := fun q => c_17 ((nI_eq (a := nL) (b := 8) (by omega) (by omega)).mpr q)
              have hlt : nL < 8 := by
                rcases Nat.lt_or_ge nL 8 with h | h
                · exact h
                · exact absurd (show nI nL = 8 by rw [show nL = 8 by omega]; rfl) c_17
              refine lv_iconst (v := 0) hx hb dX7_layer_69 (by decide) ?_
              refine xw_calls (va_runV (As := [.int 0]) (rest := []) ⟨hx, hb, hml, hown, hts⟩ (c_X7_goes l D cA A M ad σ 0) (cwV 1 hts gX7_layer_X7_goes rfl rfl rfl (by decide +kernel) ⟨Nat.le_of_ble_eq_true rfl, Nat.le_of_ble_eq_true rfl⟩) (xPV hK hM.1 rfl hM) rfl rfl hl.1 rfl (lv_room (Nat.le_of_ble_eq_true rfl)) dX7_layer_70 ⟨Nat.le_of_ble_eq_true rfl, Nat.le_of_ble_eq_true rfl⟩) hS (fun _ _ h => h) (fun _ h => h) (fun H locs hM _ _ hS => ?_)
              refine xb_ne (tgt := 78) hx hb dX7_layer_73 (by decide) (fun _ => ?_) (fun c_18 => absurd c_18 (by decide))
              refine lv_aload_n hx hb dX7_layer_78 rfl (lv_at hl 1 rfl) ?_
              refine m_get (v := .ref (ad 3)) hx hb hts h7 hown hK hM 3 (by decide) (hts (.fieldLink RX7 16 "ConfigBeaconModel" "precedences" "[I") (by decide +kernel)) rfl dX7_layer_79 ?_
              refine lv_aload_n hx hb dX7_layer_82 rfl (lv_at hl 1 rfl) ?_
              refine m_get (v := .int (nI nL)) hx hb hts h7 hown hK hM 6 (by decide) (hts (.fieldLink RX7 71 "ConfigBeaconModel" "layers" "I") (by decide +kernel)) (by show some (Value.int (σ.1 6)) = _; rw [hL]) dX7_layer_83 ?_
              refine lv_iload_n hx hb dX7_layer_86 rfl (lv_at hl 2 rfl) ?_
              refine m_ast hx hb hK hM hS 3 (by decide) (n := 8) rfl nL rfl (by omega) (by decide) dX7_layer_87 (fun H locs hM hS => ?_)
              refine lv_aload_n hx hb dX7_layer_88 rfl (lv_at hl 1 rfl) ?_
              refine m_get (v := .ref (ad 4)) hx hb hts h7 hown hK hM 4 (by decide) (hts (.fieldLink RX7 19 "ConfigBeaconModel" "selectors" "[I") (by decide +kernel)) rfl dX7_layer_89 ?_
              refine lv_aload_n hx hb dX7_layer_92 rfl (lv_at hl 1 rfl) ?_
              refine m_get (v := .int (nI nL)) hx hb hts h7 hown hK hM 6 (by decide) (hts (.fieldLink RX7 71 "ConfigBeaconModel" "layers" "I") (by decide +kernel)) (by show some (Value.int (σ.1 6)) = _; rw [hL]) dX7_layer_93 ?_
              refine lv_iload_n hx hb dX7_layer_96 rfl (lv_at hl 3 rfl) ?_
              refine m_ast hx hb hK hM hS 4 (by decide) (n := 8) rfl nL rfl (by omega) (by decide) dX7_layer_97 (fun H locs hM hS => ?_)
              refine lv_aload_n hx hb dX7_layer_98 rfl (lv_at hl 1 rfl) ?_
              refine m_get (v := .ref (ad 5)) hx hb hts h7 hown hK hM 5 (by decide) (hts (.fieldLink RX7 22 "ConfigBeaconModel" "whiches" "[I") (by decide +kernel)) rfl dX7_layer_99 ?_
              refine lv_aload_n hx hb dX7_layer_102 rfl (lv_at hl 1 rfl) ?_
              refine m_get (v := .int (nI nL)) hx hb hts h7 hown hK hM 6 (by decide) (hts (.fieldLink RX7 71 "ConfigBeaconModel" "layers" "I") (by decide +kernel)) (by show some (Value.int (σ.1 6)) = _; rw [hL]) dX7_layer_103 ?_
              refine lv_iload_n hx hb dX7_layer_106 rfl (lv_at hl 4 rfl) ?_
              refine m_ast hx hb hK hM hS 5 (by decide) (n := 8) rfl nL rfl (by omega) (by decide) dX7_layer_107 (fun H locs hM hS => ?_)
              refine lv_aload_n hx hb dX7_layer_108 rfl (lv_at hl 1 rfl) ?_
              refine lv_dup hx hb dX7_layer_109 rfl ?_
              refine m_get (v := .int (nI nL)) hx hb hts h7 hown hK hM 6 (by decide) (hts (.fieldLink RX7 71 "ConfigBeaconModel" "layers" "I") (by decide +kernel)) (by show some (Value.int (σ.1 6)) = _; rw [hL]) dX7_layer_110 ?_
              refine lv_iconst (v := 1) hx hb dX7_layer_113 (by decide) ?_
              refine xe_iadd hx hb (nI_add nL 1) dX7_layer_114 ?_
              refine m_put hx hb hts h7 hown hK hM hS 6 (by decide) (by decide) (hts (.fieldLink RX7 71 "ConfigBeaconModel" "layers" "I") (by decide +kernel)) rfl rfl dX7_layer_115 (fun H locs hM hS => ?_)
              refine lv_aload_n hx hb dX7_layer_118 rfl (lv_at hl 1 rfl) ?_
              refine m_get (v := .int (nI (nL + 1))) hx hb hts h7 hown hK hM 6 (by decide) (hts (.fieldLink RX7 71 "ConfigBeaconModel" "layers" "I") (by decide +kernel)) rfl dX7_layer_119 ?_
              refine lv_iconst (v := 1) hx hb dX7_layer_122 (by decide) ?_
              refine xe_isub hx hb (pk_sub (show 1 ≤ (nL + 1) by omega)) dX7_layer_123 ?_
              exact xw_iret hx hb hr hlocks hS (mJ_ok hM (by first | (simp [kLy, mostF, c_1, c_2, c_12, c_14, c_16, c_17, n_17]; done) | (simp_all [kLy, mostF]; done) | (simp [kLy, mostF, c_1, c_2, c_12, c_14, c_16, c_17, n_17]; omega)) rfl ⟨rfl, ⟨fun k q => by (simp only [List.mem_cons, List.not_mem_nil, or_false] at q; rcases q with rfl | rfl | rfl <;> rfl), fun _ _ => rfl⟩⟩) (Nat.le_refl _) (Nat.le_refl _) dX7_layer_124
            · have n_17 : nL = 8 := (nI_eq (a := nL) (b := 8) (by omega) (by omega)).mp c_17
              refine lv_iconst (v := 2) hx hb dX7_layer_65 (by decide) ?_
              refine lv_goto (tgt := 70) hx hb dX7_layer_66 (by decide) ?_
              refine xw_calls (va_runV (As := [.int 2]) (rest := []) ⟨hx, hb, hml, hown, hts⟩ (c_X7_goes l D cA A M ad σ 2) (cwV 1 hts gX7_layer_X7_goes rfl rfl rfl (by decide +kernel) ⟨Nat.le_of_ble_eq_true rfl, Nat.le_of_ble_eq_true rfl⟩) (xPV hK hM.1 rfl hM) rfl rfl hl.1 rfl (lv_room (Nat.le_of_ble_eq_true rfl)) dX7_layer_70 ⟨Nat.le_of_ble_eq_true rfl, Nat.le_of_ble_eq_true rfl⟩) hS (fun _ _ h => h) (fun _ h => h) (fun H locs hM _ _ hS => ?_)
              refine xb_ne (tgt := 78) hx hb dX7_layer_73 (by decide) (fun c_19 => absurd c_19 (by decide)) (fun _ => ?_)
              refine lv_iconst (v := 0) hx hb dX7_layer_76 (by decide) ?_
              exact xw_iret hx hb hr hlocks hS (mJ_no (w := 2) hM (by first | (simp [kLy, mostF, c_1, c_2, c_12, c_14, c_16, c_17, n_17]; done) | (simp_all [kLy, mostF]; done) | (simp [kLy, mostF, c_1, c_2, c_12, c_14, c_16, c_17, n_17]; omega)) (by decide) rfl (PE.rf.sg 25 _ (by decide))) (Nat.le_refl _) (Nat.le_refl _) dX7_layer_77
          · refine lv_iconst (v := 1) hx hb dX7_layer_52 (by decide) ?_
            refine lv_goto (tgt := 70) hx hb dX7_layer_53 (by decide) ?_
            refine xw_calls (va_runV (As := [.int 1]) (rest := []) ⟨hx, hb, hml, hown, hts⟩ (c_X7_goes l D cA A M ad σ 1) (cwV 1 hts gX7_layer_X7_goes rfl rfl rfl (by decide +kernel) ⟨Nat.le_of_ble_eq_true rfl, Nat.le_of_ble_eq_true rfl⟩) (xPV hK hM.1 rfl hM) rfl rfl hl.1 rfl (lv_room (Nat.le_of_ble_eq_true rfl)) dX7_layer_70 ⟨Nat.le_of_ble_eq_true rfl, Nat.le_of_ble_eq_true rfl⟩) hS (fun _ _ h => h) (fun _ h => h) (fun H locs hM _ _ hS => ?_)
            refine xb_ne (tgt := 78) hx hb dX7_layer_73 (by decide) (fun c_20 => absurd c_20 (by decide)) (fun _ => ?_)
            refine lv_iconst (v := 0) hx hb dX7_layer_76 (by decide) ?_
            exact xw_iret hx hb hr hlocks hS (mJ_no (w := 1) hM (by first | (simp [kLy, mostF, c_1, c_2, c_12, c_14, c_16]; done) | (simp_all [kLy, mostF]; done) | (simp [kLy, mostF, c_1, c_2, c_12, c_14, c_16]; omega)) (by decide) rfl (PE.rf.sg 25 _ (by decide))) (Nat.le_refl _) (Nat.le_refl _) dX7_layer_77
  · refine lv_iconst (v := 0) hx hb dX7_layer_4 (by decide) ?_
    refine lv_goto (tgt := 20) hx hb dX7_layer_5 (by decide) ?_
    refine lv_istore (lv' := [(4, .int 0), (0, .ref M), (1, .int pv), (2, .int q), (3, .int w)]) hx hb dX7_layer_20 hl (by decide) rfl (fun ls hl => ?_)
    refine lv_aload_n hx hb dX7_layer_22 rfl (lv_at hl 1 rfl) ?_
    refine lv_iload_n hx hb dX7_layer_23 rfl (lv_at hl 2 rfl) ?_
    refine lv_iconst (v := 0) hx hb dX7_layer_24 (by decide) ?_
    refine lv_bipush (v := 99) hx hb dX7_layer_25 (by decide) ?_
    refine xr_call (va_runS (As := [.int pv, .int 0, .int 99]) (rest := [.ref M]) ⟨hx, hb, hml, hown, hts⟩ (c_X7_isIn l D cA pv 0 99) (va_cwS 3 hts gX7_layer_X7_isIn rfl rfl rfl (by decide +kernel) ⟨Nat.le_of_ble_eq_true rfl, Nat.le_of_ble_eq_true rfl⟩) (xPS hK trivial) rfl rfl hl.1 rfl (lv_room (Nat.le_of_ble_eq_true rfl)) dX7_layer_27 ⟨Nat.le_of_ble_eq_true rfl, Nat.le_of_ble_eq_true rfl⟩) ?_
    refine xb_eq (tgt := 52) hx hb dX7_layer_30 (by decide) (fun c_21 => ?_) (fun c_21 => ?_)
    · refine lv_iconst (v := 1) hx hb dX7_layer_52 (by decide) ?_
      refine lv_goto (tgt := 70) hx hb dX7_layer_53 (by decide) ?_
      refine xw_calls (va_runV (As := [.int 1]) (rest := []) ⟨hx, hb, hml, hown, hts⟩ (c_X7_goes l D cA A M ad σ 1) (cwV 1 hts gX7_layer_X7_goes rfl rfl rfl (by decide +kernel) ⟨Nat.le_of_ble_eq_true rfl, Nat.le_of_ble_eq_true rfl⟩) (xPV hK hM.1 rfl hM) rfl rfl hl.1 rfl (lv_room (Nat.le_of_ble_eq_true rfl)) dX7_layer_70 ⟨Nat.le_of_ble_eq_true rfl, Nat.le_of_ble_eq_true rfl⟩) hS (fun _ _ h => h) (fun _ h => h) (fun H locs hM _ _ hS => ?_)
      refine xb_ne (tgt := 78) hx hb dX7_layer_73 (by decide) (fun c_22 => absurd c_22 (by decide)) (fun _ => ?_)
      refine lv_iconst (v := 0) hx hb dX7_layer_76 (by decide) ?_
      exact xw_iret hx hb hr hlocks hS (mJ_no (w := 1) hM (by first | (simp [kLy, mostF, c_1, c_21]; done) | (simp_all [kLy, mostF]; done) | (simp [kLy, mostF, c_1, c_21]; omega)) (by decide) rfl (PE.rf.sg 25 _ (by decide))) (Nat.le_refl _) (Nat.le_refl _) dX7_layer_77
    · refine lv_iload_n hx hb dX7_layer_33 rfl (lv_at hl 3 rfl) ?_
      refine lv_iconst (v := 0) hx hb dX7_layer_34 (by decide) ?_
      refine lv_iconst (v := 3) hx hb dX7_layer_35 (by decide) ?_
      refine xr_call (va_runS (As := [.int q, .int 0, .int 3]) (rest := [.ref M]) ⟨hx, hb, hml, hown, hts⟩ (c_X7_isIn l D cA q 0 3) (va_cwS 3 hts gX7_layer_X7_isIn rfl rfl rfl (by decide +kernel) ⟨Nat.le_of_ble_eq_true rfl, Nat.le_of_ble_eq_true rfl⟩) (xPS hK trivial) rfl rfl hl.1 rfl (lv_room (Nat.le_of_ble_eq_true rfl)) dX7_layer_36 ⟨Nat.le_of_ble_eq_true rfl, Nat.le_of_ble_eq_true rfl⟩) ?_
      refine xb_eq (tgt := 52) hx hb dX7_layer_39 (by decide) (fun c_23 => ?_) (fun c_23 => ?_)
      · refine lv_iconst (v := 1) hx hb dX7_layer_52 (by decide) ?_
        refine lv_goto (tgt := 70) hx hb dX7_layer_53 (by decide) ?_
        refine xw_calls (va_runV (As := [.int 1]) (rest := []) ⟨hx, hb, hml, hown, hts⟩ (c_X7_goes l D cA A M ad σ 1) (cwV 1 hts gX7_layer_X7_goes rfl rfl rfl (by decide +kernel) ⟨Nat.le_of_ble_eq_true rfl, Nat.le_of_ble_eq_true rfl⟩) (xPV hK hM.1 rfl hM) rfl rfl hl.1 rfl (lv_room (Nat.le_of_ble_eq_true rfl)) dX7_layer_70 ⟨Nat.le_of_ble_eq_true rfl, Nat.le_of_ble_eq_true rfl⟩) hS (fun _ _ h => h) (fun _ h => h) (fun H locs hM _ _ hS => ?_)
        refine xb_ne (tgt := 78) hx hb dX7_layer_73 (by decide) (fun c_24 => absurd c_24 (by decide)) (fun _ => ?_)
        refine lv_iconst (v := 0) hx hb dX7_layer_76 (by decide) ?_
        exact xw_iret hx hb hr hlocks hS (mJ_no (w := 1) hM (by first | (simp [kLy, mostF, c_1, c_21, c_23]; done) | (simp_all [kLy, mostF]; done) | (simp [kLy, mostF, c_1, c_21, c_23]; omega)) (by decide) rfl (PE.rf.sg 25 _ (by decide))) (Nat.le_refl _) (Nat.le_refl _) dX7_layer_77
      · refine lv_iload_n hx hb dX7_layer_42 rfl (lv_at hl 4 rfl) ?_
        refine lv_iconst (v := 0) hx hb dX7_layer_43 (by decide) ?_
        refine lv_iload hx hb dX7_layer_44 (lv_at hl 0 rfl) ?_
        refine xr_call (va_runS (As := [.int w, .int 0, .int 0]) (rest := [.ref M]) ⟨hx, hb, hml, hown, hts⟩ (c_X7_isIn l D cA w 0 0) (va_cwS 3 hts gX7_layer_X7_isIn rfl rfl rfl (by decide +kernel) ⟨Nat.le_of_ble_eq_true rfl, Nat.le_of_ble_eq_true rfl⟩) (xPS hK trivial) rfl rfl hl.1 rfl (lv_room (Nat.le_of_ble_eq_true rfl)) dX7_layer_46 ⟨Nat.le_of_ble_eq_true rfl, Nat.le_of_ble_eq_true rfl⟩) ?_
        refine xb_ne (tgt := 56) hx hb dX7_layer_49 (by decide) (fun c_25 => ?_) (fun c_25 => ?_)
        · refine lv_aload_n hx hb dX7_layer_56 rfl (lv_at hl 1 rfl) ?_
          refine m_get (v := .int (nI nL)) hx hb hts h7 hown hK hM 6 (by decide) (hts (.fieldLink RX7 71 "ConfigBeaconModel" "layers" "I") (by decide +kernel)) (by show some (Value.int (σ.1 6)) = _; rw [hL]) dX7_layer_57 ?_
          refine lv_bipush (v := 8) hx hb dX7_layer_60 (by decide) ?_
          refine lv_icmp_ne (tgt := 69) hx hb dX7_layer_62 (by decide) (fun c_26 => ?_) (fun c_26 => ?_)
          · have n_26 : ¬ nL = 8 := fun q => c_26 ((nI_eq (a := nL) (b := 8) (by omega) (by omega)).mpr q)
            have hlt : nL < 8 := by
              rcases Nat.lt_or_ge nL 8 with h | h
              · exact h
              · exact absurd (show nI nL = 8 by rw [show nL = 8 by omega]; rfl) c_26
            refine lv_iconst (v := 0) hx hb dX7_layer_69 (by decide) ?_
            refine xw_calls (va_runV (As := [.int 0]) (rest := []) ⟨hx, hb, hml, hown, hts⟩ (c_X7_goes l D cA A M ad σ 0) (cwV 1 hts gX7_layer_X7_goes rfl rfl rfl (by decide +kernel) ⟨Nat.le_of_ble_eq_true rfl, Nat.le_of_ble_eq_true rfl⟩) (xPV hK hM.1 rfl hM) rfl rfl hl.1 rfl (lv_room (Nat.le_of_ble_eq_true rfl)) dX7_layer_70 ⟨Nat.le_of_ble_eq_true rfl, Nat.le_of_ble_eq_true rfl⟩) hS (fun _ _ h => h) (fun _ h => h) (fun H locs hM _ _ hS => ?_)
            refine xb_ne (tgt := 78) hx hb dX7_layer_73 (by decide) (fun _ => ?_) (fun c_27 => absurd c_27 (by decide))
            refine lv_aload_n hx hb dX7_layer_78 rfl (lv_at hl 1 rfl) ?_
            refine m_get (v := .ref (ad 3)) hx hb hts h7 hown hK hM 3 (by decide) (hts (.fieldLink RX7 16 "ConfigBeaconModel" "precedences" "[I") (by decide +kernel)) rfl dX7_layer_79 ?_
            refine lv_aload_n hx hb dX7_layer_82 rfl (lv_at hl 1 rfl) ?_
            refine m_get (v := .int (nI nL)) hx hb hts h7 hown hK hM 6 (by decide) (hts (.fieldLink RX7 71 "ConfigBeaconModel" "layers" "I") (by decide +kernel)) (by show some (Value.int (σ.1 6)) = _; rw [hL]) dX7_layer_83 ?_
            refine lv_iload_n hx hb dX7_layer_86 rfl (lv_at hl 2 rfl) ?_
            refine m_ast hx hb hK hM hS 3 (by decide) (n := 8) rfl nL rfl (by omega) (by decide) dX7_layer_87 (fun H locs hM hS => ?_)
            refine lv_aload_n hx hb dX7_layer_88 rfl (lv_at hl 1 rfl) ?_
            refine m_get (v := .ref (ad 4)) hx hb hts h7 hown hK hM 4 (by decide) (hts (.fieldLink RX7 19 "ConfigBeaconModel" "selectors" "[I") (by decide +kernel)) rfl dX7_layer_89 ?_
            refine lv_aload_n hx hb dX7_layer_92 rfl (lv_at hl 1 rfl) ?_
            refine m_get (v := .int (nI nL)) hx hb hts h7 hown hK hM 6 (by decide) (hts (.fieldLink RX7 71 "ConfigBeaconModel" "layers" "I") (by decide +kernel)) (by show some (Value.int (σ.1 6)) = _; rw [hL]) dX7_layer_93 ?_
            refine lv_iload_n hx hb dX7_layer_96 rfl (lv_at hl 3 rfl) ?_
            refine m_ast hx hb hK hM hS 4 (by decide) (n := 8) rfl nL rfl (by omega) (by decide) dX7_layer_97 (fun H locs hM hS => ?_)
            refine lv_aload_n hx hb dX7_layer_98 rfl (lv_at hl 1 rfl) ?_
            refine m_get (v := .ref (ad 5)) hx hb hts h7 hown hK hM 5 (by decide) (hts (.fieldLink RX7 22 "ConfigBeaconModel" "whiches" "[I") (by decide +kernel)) rfl dX7_layer_99 ?_
            refine lv_aload_n hx hb dX7_layer_102 rfl (lv_at hl 1 rfl) ?_
            refine m_get (v := .int (nI nL)) hx hb hts h7 hown hK hM 6 (by decide) (hts (.fieldLink RX7 71 "ConfigBeaconModel" "layers" "I") (by decide +kernel)) (by show some (Value.int (σ.1 6)) = _; rw [hL]) dX7_layer_103 ?_
            refine lv_iload_n hx hb dX7_layer_106 rfl (lv_at hl 4 rfl) ?_
            refine m_ast hx hb hK hM hS 5 (by decide) (n := 8) rfl nL rfl (by omega) (by decide) dX7_layer_107 (fun H locs hM hS => ?_)
            refine lv_aload_n hx hb dX7_layer_108 rfl (lv_at hl 1 rfl) ?_
            refine lv_dup hx hb dX7_layer_109 rfl ?_
            refine m_get (v := .int (nI nL)) hx hb hts h7 hown hK hM 6 (by decide) (hts (.fieldLink RX7 71 "ConfigBeaconModel" "layers" "I") (by decide +kernel)) (by show some (Value.int (σ.1 6)) = _; rw [hL]) dX7_layer_110 ?_
            refine lv_iconst (v := 1) hx hb dX7_layer_113 (by decide) ?_
            refine xe_iadd hx hb (nI_add nL 1) dX7_layer_114 ?_
            refine m_put hx hb hts h7 hown hK hM hS 6 (by decide) (by decide) (hts (.fieldLink RX7 71 "ConfigBeaconModel" "layers" "I") (by decide +kernel)) rfl rfl dX7_layer_115 (fun H locs hM hS => ?_)
            refine lv_aload_n hx hb dX7_layer_118 rfl (lv_at hl 1 rfl) ?_
            refine m_get (v := .int (nI (nL + 1))) hx hb hts h7 hown hK hM 6 (by decide) (hts (.fieldLink RX7 71 "ConfigBeaconModel" "layers" "I") (by decide +kernel)) rfl dX7_layer_119 ?_
            refine lv_iconst (v := 1) hx hb dX7_layer_122 (by decide) ?_
            refine xe_isub hx hb (pk_sub (show 1 ≤ (nL + 1) by omega)) dX7_layer_123 ?_
            exact xw_iret hx hb hr hlocks hS (mJ_ok hM (by first | (simp [kLy, mostF, c_1, c_21, c_23, c_25, c_26, n_26]; done) | (simp_all [kLy, mostF]; done) | (simp [kLy, mostF, c_1, c_21, c_23, c_25, c_26, n_26]; omega)) rfl ⟨rfl, ⟨fun k q => by (simp only [List.mem_cons, List.not_mem_nil, or_false] at q; rcases q with rfl | rfl | rfl <;> rfl), fun _ _ => rfl⟩⟩) (Nat.le_refl _) (Nat.le_refl _) dX7_layer_124
          · have n_26 : nL = 8 := (nI_eq (a := nL) (b := 8) (by omega) (by omega)).mp c_26
            refine lv_iconst (v := 2) hx hb dX7_layer_65 (by decide) ?_
            refine lv_goto (tgt := 70) hx hb dX7_layer_66 (by decide) ?_
            refine xw_calls (va_runV (As := [.int 2]) (rest := []) ⟨hx, hb, hml, hown, hts⟩ (c_X7_goes l D cA A M ad σ 2) (cwV 1 hts gX7_layer_X7_goes rfl rfl rfl (by decide +kernel) ⟨Nat.le_of_ble_eq_true rfl, Nat.le_of_ble_eq_true rfl⟩) (xPV hK hM.1 rfl hM) rfl rfl hl.1 rfl (lv_room (Nat.le_of_ble_eq_true rfl)) dX7_layer_70 ⟨Nat.le_of_ble_eq_true rfl, Nat.le_of_ble_eq_true rfl⟩) hS (fun _ _ h => h) (fun _ h => h) (fun H locs hM _ _ hS => ?_)
            refine xb_ne (tgt := 78) hx hb dX7_layer_73 (by decide) (fun c_28 => absurd c_28 (by decide)) (fun _ => ?_)
            refine lv_iconst (v := 0) hx hb dX7_layer_76 (by decide) ?_
            exact xw_iret hx hb hr hlocks hS (mJ_no (w := 2) hM (by first | (simp [kLy, mostF, c_1, c_21, c_23, c_25, c_26, n_26]; done) | (simp_all [kLy, mostF]; done) | (simp [kLy, mostF, c_1, c_21, c_23, c_25, c_26, n_26]; omega)) (by decide) rfl (PE.rf.sg 25 _ (by decide))) (Nat.le_refl _) (Nat.le_refl _) dX7_layer_77
        · refine lv_iconst (v := 1) hx hb dX7_layer_52 (by decide) ?_
          refine lv_goto (tgt := 70) hx hb dX7_layer_53 (by decide) ?_
          refine xw_calls (va_runV (As := [.int 1]) (rest := []) ⟨hx, hb, hml, hown, hts⟩ (c_X7_goes l D cA A M ad σ 1) (cwV 1 hts gX7_layer_X7_goes rfl rfl rfl (by decide +kernel) ⟨Nat.le_of_ble_eq_true rfl, Nat.le_of_ble_eq_true rfl⟩) (xPV hK hM.1 rfl hM) rfl rfl hl.1 rfl (lv_room (Nat.le_of_ble_eq_true rfl)) dX7_layer_70 ⟨Nat.le_of_ble_eq_true rfl, Nat.le_of_ble_eq_true rfl⟩) hS (fun _ _ h => h) (fun _ h => h) (fun H locs hM _ _ hS => ?_)
          refine xb_ne (tgt := 78) hx hb dX7_layer_73 (by decide) (fun c_29 => absurd c_29 (by decide)) (fun _ => ?_)
          refine lv_iconst (v := 0) hx hb dX7_layer_76 (by decide) ?_
          exact xw_iret hx hb hr hlocks hS (mJ_no (w := 1) hM (by first | (simp [kLy, mostF, c_1, c_21, c_23, c_25]; done) | (simp_all [kLy, mostF]; done) | (simp [kLy, mostF, c_1, c_21, c_23, c_25]; omega)) (by decide) rfl (PE.rf.sg 25 _ (by decide))) (Nat.le_refl _) (Nat.le_refl _) dX7_layer_77
set_option maxHeartbeats 4000000 in
set_option maxRecDepth 100000 in
theorem c_X7_rank (l : Launch) (D : va_G) (cA : Nat → ClassId) (A : Nat → Prop) (M : Nat) (ad : Nat → Nat) (σ : MS) (a : Int32) (pv : Int32) (nL : Nat) (hL : σ.1 6 = nI nL) (hL2 : nL ≤ 8) : Met l yX7_rank wsX7_rank (rmK 3 0 0) (xP D cA [.ref M, .int a, .int pv] (MR D cA A M ad σ)) (xW (mJ D cA A M ad σ (kRk nL a pv) (fun r τ => r = some (.int (σ.2.1 3 (ix a))) ∧ PE τ (sa σ 3 (ix a) pv))) A) 0 0 A := by
  refine Met.ofW (cc := cX7_rank) (maxL := 4) (ret := (some .int)) (by decide) rfl ?_
  intro p e s m args below meth c s₁ B hml hv
  obtain ⟨rfl, hK, hI⟩ := hv
  have hx := B.exec
  have hb := B.bytes
  have hr := B.returns
  have hts := atoms_spec (ws := wsX7_rank) B.pre
  have hown : s.vm.findClass RX7 = some m.cls := findClass_of_methodNamed B.named
  have hlocks := B.notSynchronized
  have hl := lv_entry ([.ref M, .int a, .int pv]) (n := 4) (Nat.le_of_ble_eq_true rfl)
  rw [lg_entry_eq]
  generalize (lg_sl ([.ref M, .int a, .int pv]) ++ List.replicate (4 - (lg_sl ([.ref M, .int a, .int pv])).length) Slot.unset).toArray = ls at hl ⊢
  have hl : lv_has ls 4 [(0, .ref M), (1, .int a), (2, .int pv)] := hl
  have hM : MR D cA A M ad σ s.heap := hI
  have h7 : ∀ w ∈ wsX70, w ∈ wsX7_rank := fun _ h => List.mem_cons_of_mem _ (List.mem_append_right _ h)
  have hS : va_S A s.heap s.heap [] := va_S.rf
  refine lv_aload_n hx hb dX7_rank_0 rfl (lv_at hl 0 rfl) ?_
  refine lv_aload_n hx hb dX7_rank_1 rfl (lv_at hl 0 rfl) ?_
  refine lv_iload_n hx hb dX7_rank_2 rfl (lv_at hl 1 rfl) ?_
  refine xr_call (va_runV (As := [.int a]) (rest := [.ref M]) ⟨hx, hb, hml, hown, hts⟩ (c_X7_isLayer l D cA A M ad σ a nL hL (by omega)) (cwV 1 hts gX7_rank_X7_isLayer rfl rfl rfl (by decide +kernel) ⟨Nat.le_of_ble_eq_true rfl, Nat.le_of_ble_eq_true rfl⟩) (xPV hK hM.1 rfl hM) rfl rfl hl.1 rfl (lv_room (Nat.le_of_ble_eq_true rfl)) dX7_rank_3 ⟨Nat.le_of_ble_eq_true rfl, Nat.le_of_ble_eq_true rfl⟩) ?_
  refine xb_ne (tgt := 13) hx hb dX7_rank_6 (by decide) (fun c_1 => ?_) (fun c_1 => ?_)
  · obtain ⟨j_a, hj_a, rfl⟩ := okN_of (by omega) c_1
    refine lv_iload_n hx hb dX7_rank_13 rfl (lv_at hl 2 rfl) ?_
    refine lv_iconst (v := 0) hx hb dX7_rank_14 (by decide) ?_
    refine lv_bipush (v := 99) hx hb dX7_rank_15 (by decide) ?_
    refine xr_call (va_runS (As := [.int pv, .int 0, .int 99]) (rest := [.ref M]) ⟨hx, hb, hml, hown, hts⟩ (c_X7_isIn l D cA pv 0 99) (va_cwS 3 hts gX7_rank_X7_isIn rfl rfl rfl (by decide +kernel) ⟨Nat.le_of_ble_eq_true rfl, Nat.le_of_ble_eq_true rfl⟩) (xPS hK trivial) rfl rfl hl.1 rfl (lv_room (Nat.le_of_ble_eq_true rfl)) dX7_rank_17 ⟨Nat.le_of_ble_eq_true rfl, Nat.le_of_ble_eq_true rfl⟩) ?_
    refine xb_eq (tgt := 27) hx hb dX7_rank_20 (by decide) (fun c_2 => ?_) (fun c_2 => ?_)
    · refine lv_iconst (v := 2) hx hb dX7_rank_27 (by decide) ?_
      refine xw_calls (va_runV (As := [.int 2]) (rest := []) ⟨hx, hb, hml, hown, hts⟩ (c_X7_goes l D cA A M ad σ 2) (cwV 1 hts gX7_rank_X7_goes rfl rfl rfl (by decide +kernel) ⟨Nat.le_of_ble_eq_true rfl, Nat.le_of_ble_eq_true rfl⟩) (xPV hK hM.1 rfl hM) rfl rfl hl.1 rfl (lv_room (Nat.le_of_ble_eq_true rfl)) dX7_rank_28 ⟨Nat.le_of_ble_eq_true rfl, Nat.le_of_ble_eq_true rfl⟩) hS (fun _ _ h => h) (fun _ h => h) (fun H locs hM _ _ hS => ?_)
      refine xb_ne (tgt := 36) hx hb dX7_rank_31 (by decide) (fun c_3 => absurd c_3 (by decide)) (fun _ => ?_)
      refine lv_iconst (v := 0) hx hb dX7_rank_34 (by decide) ?_
      exact xw_iret hx hb hr hlocks hS (mJ_no (w := 2) hM (by first | (simp [kRk, c_1, c_2]; done) | (simp_all [kRk]; done) | (simp [kRk, c_1, c_2]; omega)) (by decide) rfl (PE.rf.sg 25 _ (by decide))) (Nat.le_refl _) (Nat.le_refl _) dX7_rank_35
    · refine lv_iconst (v := 0) hx hb dX7_rank_23 (by decide) ?_
      refine lv_goto (tgt := 28) hx hb dX7_rank_24 (by decide) ?_
      refine xw_calls (va_runV (As := [.int 0]) (rest := []) ⟨hx, hb, hml, hown, hts⟩ (c_X7_goes l D cA A M ad σ 0) (cwV 1 hts gX7_rank_X7_goes rfl rfl rfl (by decide +kernel) ⟨Nat.le_of_ble_eq_true rfl, Nat.le_of_ble_eq_true rfl⟩) (xPV hK hM.1 rfl hM) rfl rfl hl.1 rfl (lv_room (Nat.le_of_ble_eq_true rfl)) dX7_rank_28 ⟨Nat.le_of_ble_eq_true rfl, Nat.le_of_ble_eq_true rfl⟩) hS (fun _ _ h => h) (fun _ h => h) (fun H locs hM _ _ hS => ?_)
      refine xb_ne (tgt := 36) hx hb dX7_rank_31 (by decide) (fun _ => ?_) (fun c_4 => absurd c_4 (by decide))
      refine lv_aload_n hx hb dX7_rank_36 rfl (lv_at hl 0 rfl) ?_
      refine m_get (v := .ref (ad 3)) hx hb hts h7 hown hK hM 3 (by decide) (hts (.fieldLink RX7 16 "ConfigBeaconModel" "precedences" "[I") (by decide +kernel)) rfl dX7_rank_37 ?_
      refine lv_iload_n hx hb dX7_rank_40 rfl (lv_at hl 1 rfl) ?_
      refine m_ald hx hb hK hM 3 (by decide) (n := 8) rfl j_a rfl (by omega) (by decide) dX7_rank_41 (v := (σ.2.1 3 j_a)) rfl ?_
      refine lv_istore_n (lv' := [(3, .int (σ.2.1 3 j_a)), (0, .ref M), (1, .int (nI j_a)), (2, .int pv)]) hx hb dX7_rank_42 rfl hl (by decide) rfl (fun ls hl => ?_)
      refine lv_aload_n hx hb dX7_rank_43 rfl (lv_at hl 1 rfl) ?_
      refine m_get (v := .ref (ad 3)) hx hb hts h7 hown hK hM 3 (by decide) (hts (.fieldLink RX7 16 "ConfigBeaconModel" "precedences" "[I") (by decide +kernel)) rfl dX7_rank_44 ?_
      refine lv_iload_n hx hb dX7_rank_47 rfl (lv_at hl 2 rfl) ?_
      refine lv_iload_n hx hb dX7_rank_48 rfl (lv_at hl 3 rfl) ?_
      refine m_ast hx hb hK hM hS 3 (by decide) (n := 8) rfl j_a rfl (by omega) (by decide) dX7_rank_49 (fun H locs hM hS => ?_)
      refine lv_iload_n hx hb dX7_rank_50 rfl (lv_at hl 0 rfl) ?_
      exact xw_iret hx hb hr hlocks hS (mJ_ok hM (by first | (simp [kRk, c_1, c_2]; done) | (simp_all [kRk]; done) | (simp [kRk, c_1, c_2]; omega)) rfl (by rw [ix_nI (j := j_a) (by omega)]; exact ⟨rfl, ⟨fun k q => by (simp only [List.mem_cons, List.not_mem_nil, or_false] at q; rcases q with rfl | rfl | rfl <;> rfl), fun _ _ => rfl⟩⟩)) (Nat.le_refl _) (Nat.le_refl _) dX7_rank_51
  · refine lv_iconst (v := 1) hx hb dX7_rank_9 (by decide) ?_
    refine lv_goto (tgt := 28) hx hb dX7_rank_10 (by decide) ?_
    refine xw_calls (va_runV (As := [.int 1]) (rest := []) ⟨hx, hb, hml, hown, hts⟩ (c_X7_goes l D cA A M ad σ 1) (cwV 1 hts gX7_rank_X7_goes rfl rfl rfl (by decide +kernel) ⟨Nat.le_of_ble_eq_true rfl, Nat.le_of_ble_eq_true rfl⟩) (xPV hK hM.1 rfl hM) rfl rfl hl.1 rfl (lv_room (Nat.le_of_ble_eq_true rfl)) dX7_rank_28 ⟨Nat.le_of_ble_eq_true rfl, Nat.le_of_ble_eq_true rfl⟩) hS (fun _ _ h => h) (fun _ h => h) (fun H locs hM _ _ hS => ?_)
    refine xb_ne (tgt := 36) hx hb dX7_rank_31 (by decide) (fun c_5 => absurd c_5 (by decide)) (fun _ => ?_)
    refine lv_iconst (v := 0) hx hb dX7_rank_34 (by decide) ?_
    exact xw_iret hx hb hr hlocks hS (mJ_no (w := 1) hM (by first | (simp [kRk, c_1]; done) | (simp_all [kRk]; done) | (simp [kRk, c_1]; omega)) (by decide) rfl (PE.rf.sg 25 _ (by decide))) (Nat.le_refl _) (Nat.le_refl _) dX7_rank_35
set_option maxHeartbeats 4000000 in
set_option maxRecDepth 100000 in
theorem c_X7_applies (l : Launch) (D : va_G) (cA : Nat → ClassId) (A : Nat → Prop) (M : Nat) (ad : Nat → Nat) (σ : MS) (a : Int32) (k : Int32) (nL : Nat) (hL : σ.1 6 = nI nL) (hL2 : nL ≤ 8) (nC : Nat) (hC : σ.1 2 = nI nC) (hC2 : nC ≤ 12) : Met l yX7_applies wsX7_applies (rmK 2 0 0) (xP D cA [.ref M, .int a, .int k] (MR D cA A M ad σ)) (xW (mJ D cA A M ad σ (kAp nL nC a k) (fun r τ => r = some (.int (bI (forF σ.2.1 (ix a) (ix k)))) ∧ PE τ σ)) A) 0 0 A := by
  refine Met.ofW (cc := cX7_applies) (maxL := 3) (ret := (some .boolean)) (by decide) rfl ?_
  intro p e s m args below meth c s₁ B hml hv
  obtain ⟨rfl, hK, hI⟩ := hv
  have hx := B.exec
  have hb := B.bytes
  have hr := B.returns
  have hts := atoms_spec (ws := wsX7_applies) B.pre
  have hown : s.vm.findClass RX7 = some m.cls := findClass_of_methodNamed B.named
  have hlocks := B.notSynchronized
  have hl := lv_entry ([.ref M, .int a, .int k]) (n := 3) (Nat.le_of_ble_eq_true rfl)
  rw [lg_entry_eq]
  generalize (lg_sl ([.ref M, .int a, .int k]) ++ List.replicate (3 - (lg_sl ([.ref M, .int a, .int k])).length) Slot.unset).toArray = ls at hl ⊢
  have hl : lv_has ls 3 [(0, .ref M), (1, .int a), (2, .int k)] := hl
  have hM : MR D cA A M ad σ s.heap := hI
  have h7 : ∀ w ∈ wsX70, w ∈ wsX7_applies := fun _ h => List.mem_cons_of_mem _ (List.mem_append_right _ h)
  have hS : va_S A s.heap s.heap [] := va_S.rf
  refine lv_aload_n hx hb dX7_applies_0 rfl (lv_at hl 0 rfl) ?_
  refine lv_aload_n hx hb dX7_applies_1 rfl (lv_at hl 0 rfl) ?_
  refine lv_iload_n hx hb dX7_applies_2 rfl (lv_at hl 1 rfl) ?_
  refine xr_call (va_runV (As := [.int a]) (rest := [.ref M]) ⟨hx, hb, hml, hown, hts⟩ (c_X7_isLayer l D cA A M ad σ a nL hL (by omega)) (cwV 1 hts gX7_applies_X7_isLayer rfl rfl rfl (by decide +kernel) ⟨Nat.le_of_ble_eq_true rfl, Nat.le_of_ble_eq_true rfl⟩) (xPV hK hM.1 rfl hM) rfl rfl hl.1 rfl (lv_room (Nat.le_of_ble_eq_true rfl)) dX7_applies_3 ⟨Nat.le_of_ble_eq_true rfl, Nat.le_of_ble_eq_true rfl⟩) ?_
  refine xb_eq (tgt := 21) hx hb dX7_applies_6 (by decide) (fun c_1 => ?_) (fun c_1 => ?_)
  · refine lv_iconst (v := 1) hx hb dX7_applies_21 (by decide) ?_
    refine xw_calls (va_runV (As := [.int 1]) (rest := []) ⟨hx, hb, hml, hown, hts⟩ (c_X7_goes l D cA A M ad σ 1) (cwV 1 hts gX7_applies_X7_goes rfl rfl rfl (by decide +kernel) ⟨Nat.le_of_ble_eq_true rfl, Nat.le_of_ble_eq_true rfl⟩) (xPV hK hM.1 rfl hM) rfl rfl hl.1 rfl (lv_room (Nat.le_of_ble_eq_true rfl)) dX7_applies_22 ⟨Nat.le_of_ble_eq_true rfl, Nat.le_of_ble_eq_true rfl⟩) hS (fun _ _ h => h) (fun _ h => h) (fun H locs hM _ _ hS => ?_)
    refine xb_eq (tgt := 41) hx hb dX7_applies_25 (by decide) (fun _ => ?_) (fun c_2 => absurd c_2 (by decide))
    refine lv_iconst (v := 0) hx hb dX7_applies_41 (by decide) ?_
    exact xw_zret hx hb hr hlocks (b := false) rfl hS (mJ_no (w := 1) hM (by first | (simp [kAp, c_1]; done) | (simp_all [kAp]; done) | (simp [kAp, c_1]; omega)) (by decide) rfl (PE.rf.sg 25 _ (by decide))) (Nat.le_refl _) (Nat.le_refl _) dX7_applies_42
  · obtain ⟨j_a, hj_a, rfl⟩ := okN_of (by omega) c_1
    refine lv_aload_n hx hb dX7_applies_9 rfl (lv_at hl 0 rfl) ?_
    refine lv_iload_n hx hb dX7_applies_10 rfl (lv_at hl 2 rfl) ?_
    refine xr_call (va_runV (As := [.int k]) (rest := [.ref M]) ⟨hx, hb, hml, hown, hts⟩ (c_X7_isClient l D cA A M ad σ k nC hC (by omega)) (cwV 1 hts gX7_applies_X7_isClient rfl rfl rfl (by decide +kernel) ⟨Nat.le_of_ble_eq_true rfl, Nat.le_of_ble_eq_true rfl⟩) (xPV hK hM.1 rfl hM) rfl rfl hl.1 rfl (lv_room (Nat.le_of_ble_eq_true rfl)) dX7_applies_11 ⟨Nat.le_of_ble_eq_true rfl, Nat.le_of_ble_eq_true rfl⟩) ?_
    refine xb_eq (tgt := 21) hx hb dX7_applies_14 (by decide) (fun c_3 => ?_) (fun c_3 => ?_)
    · refine lv_iconst (v := 1) hx hb dX7_applies_21 (by decide) ?_
      refine xw_calls (va_runV (As := [.int 1]) (rest := []) ⟨hx, hb, hml, hown, hts⟩ (c_X7_goes l D cA A M ad σ 1) (cwV 1 hts gX7_applies_X7_goes rfl rfl rfl (by decide +kernel) ⟨Nat.le_of_ble_eq_true rfl, Nat.le_of_ble_eq_true rfl⟩) (xPV hK hM.1 rfl hM) rfl rfl hl.1 rfl (lv_room (Nat.le_of_ble_eq_true rfl)) dX7_applies_22 ⟨Nat.le_of_ble_eq_true rfl, Nat.le_of_ble_eq_true rfl⟩) hS (fun _ _ h => h) (fun _ h => h) (fun H locs hM _ _ hS => ?_)
      refine xb_eq (tgt := 41) hx hb dX7_applies_25 (by decide) (fun _ => ?_) (fun c_4 => absurd c_4 (by decide))
      refine lv_iconst (v := 0) hx hb dX7_applies_41 (by decide) ?_
      exact xw_zret hx hb hr hlocks (b := false) rfl hS (mJ_no (w := 1) hM (by first | (simp [kAp, c_1, c_3]; done) | (simp_all [kAp]; done) | (simp [kAp, c_1, c_3]; omega)) (by decide) rfl (PE.rf.sg 25 _ (by decide))) (Nat.le_refl _) (Nat.le_refl _) dX7_applies_42
    · obtain ⟨j_k, hj_k, rfl⟩ := okN_of (by omega) c_3
      refine lv_iconst (v := 0) hx hb dX7_applies_17 (by decide) ?_
      refine lv_goto (tgt := 22) hx hb dX7_applies_18 (by decide) ?_
      refine xw_calls (va_runV (As := [.int 0]) (rest := []) ⟨hx, hb, hml, hown, hts⟩ (c_X7_goes l D cA A M ad σ 0) (cwV 1 hts gX7_applies_X7_goes rfl rfl rfl (by decide +kernel) ⟨Nat.le_of_ble_eq_true rfl, Nat.le_of_ble_eq_true rfl⟩) (xPV hK hM.1 rfl hM) rfl rfl hl.1 rfl (lv_room (Nat.le_of_ble_eq_true rfl)) dX7_applies_22 ⟨Nat.le_of_ble_eq_true rfl, Nat.le_of_ble_eq_true rfl⟩) hS (fun _ _ h => h) (fun _ h => h) (fun H locs hM _ _ hS => ?_)
      refine xb_eq (tgt := 41) hx hb dX7_applies_25 (by decide) (fun c_5 => absurd c_5 (by decide)) (fun _ => ?_)
      refine lv_aload_n hx hb dX7_applies_28 rfl (lv_at hl 0 rfl) ?_
      refine lv_iload_n hx hb dX7_applies_29 rfl (lv_at hl 1 rfl) ?_
      refine lv_iload_n hx hb dX7_applies_30 rfl (lv_at hl 2 rfl) ?_
      refine xr_call (va_runV (As := [.int (nI j_a), .int (nI j_k)]) (rest := []) ⟨hx, hb, hml, hown, hts⟩ (c_X7_isFor l D cA A M ad (sg σ 25 0) j_a j_k (by omega) (by omega)) (cwV 2 hts gX7_applies_X7_isFor rfl rfl rfl (by decide +kernel) ⟨Nat.le_of_ble_eq_true rfl, Nat.le_of_ble_eq_true rfl⟩) (xPV hK hM.1 rfl hM) rfl rfl hl.1 rfl (lv_room (Nat.le_of_ble_eq_true rfl)) dX7_applies_31 ⟨Nat.le_of_ble_eq_true rfl, Nat.le_of_ble_eq_true rfl⟩) ?_
      refine xb_eq (tgt := 41) hx hb dX7_applies_34 (by decide) (fun c_6 => ?_) (fun c_6 => ?_)
      · have c_6 : (forF σ.2.1 j_a j_k) = false := c_6
        refine lv_iconst (v := 0) hx hb dX7_applies_41 (by decide) ?_
        exact xw_zret hx hb hr hlocks (b := false) rfl hS (mJ_ok hM (by first | (simp [kAp, c_1, c_3, c_6]; done) | (simp_all [kAp]; done) | (simp [kAp, c_1, c_3, c_6]; omega)) rfl ⟨by rw [ix_nI (j := j_a) (by omega), ix_nI (j := j_k) (by omega), show forF σ.2.1 j_a j_k = _ from c_6], PE.rf.sg 25 _ (by decide)⟩) (Nat.le_refl _) (Nat.le_refl _) dX7_applies_42
      · have c_6 : (forF σ.2.1 j_a j_k) = true := c_6
        refine lv_iconst (v := 1) hx hb dX7_applies_37 (by decide) ?_
        refine lv_goto (tgt := 42) hx hb dX7_applies_38 (by decide) ?_
        exact xw_zret hx hb hr hlocks (b := true) rfl hS (mJ_ok hM (by first | (simp [kAp, c_1, c_3, c_6]; done) | (simp_all [kAp]; done) | (simp [kAp, c_1, c_3, c_6]; omega)) rfl ⟨by rw [ix_nI (j := j_a) (by omega), ix_nI (j := j_k) (by omega), show forF σ.2.1 j_a j_k = _ from c_6], PE.rf.sg 25 _ (by decide)⟩) (Nat.le_refl _) (Nat.le_refl _) dX7_applies_42
