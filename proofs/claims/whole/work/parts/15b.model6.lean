set_option maxHeartbeats 4000000 in
set_option maxRecDepth 100000 in
theorem c_X7_layerAt (l : Launch) (D : va_G) (cA : Nat → ClassId) (A : Nat → Prop) (M : Nat) (ad : Nat → Nat) (σ : MS) (pl : Int32) (nL : Nat) (hL : σ.1 6 = nI nL) (hL2 : nL ≤ 8) : Met l yX7_layerAt wsX7_layerAt (rmK 2 0 0) (xP D cA [.ref M, .int pl] (MR D cA A M ad σ)) (xW (mJ D cA A M ad σ (kLA nL pl) (fun r τ => r = some (.int (lyAt (σ.2.1 3) nL pl)) ∧ PE τ σ)) A) 0 0 A := by
  refine Met.ofW (cc := cX7_layerAt) (maxL := 7) (ret := (some .int)) (by decide) rfl ?_
  intro p e s m args below meth c s₁ B hml hv
  obtain ⟨rfl, hK, hI⟩ := hv
  have hx := B.exec
  have hb := B.bytes
  have hr := B.returns
  have hts := atoms_spec (ws := wsX7_layerAt) B.pre
  have hown : s.vm.findClass RX7 = some m.cls := findClass_of_methodNamed B.named
  have hlocks := B.notSynchronized
  have hl := lv_entry ([.ref M, .int pl]) (n := 7) (Nat.le_of_ble_eq_true rfl)
  rw [lg_entry_eq]
  generalize (lg_sl ([.ref M, .int pl]) ++ List.replicate (7 - (lg_sl ([.ref M, .int pl])).length) Slot.unset).toArray = ls at hl ⊢
  have hl : lv_has ls 7 [(0, .ref M), (1, .int pl)] := hl
  have hM : MR D cA A M ad σ s.heap := hI
  have h7 : ∀ w ∈ wsX70, w ∈ wsX7_layerAt := fun _ h => List.mem_cons_of_mem _ (List.mem_append_right _ h)
  have hS : va_S A s.heap s.heap [] := va_S.rf
  refine lv_iconst (v := 0) hx hb dX7_layerAt_0 (by decide) ?_
  refine lv_istore_n (lv' := [(2, .int 0), (0, .ref M), (1, .int pl)]) hx hb dX7_layerAt_1 rfl hl (by decide) rfl (fun ls hl => ?_)
  refine lv_aload_n hx hb dX7_layerAt_2 rfl (lv_at hl 1 rfl) ?_
  refine lv_iload_n hx hb dX7_layerAt_3 rfl (lv_at hl 2 rfl) ?_
  refine lv_iconst (v := 0) hx hb dX7_layerAt_4 (by decide) ?_
  refine lv_aload_n hx hb dX7_layerAt_5 rfl (lv_at hl 1 rfl) ?_
  refine m_get (v := .int (nI nL)) hx hb hts h7 hown hK hM 6 (by decide) (hts (.fieldLink RX7 71 "ConfigBeaconModel" "layers" "I") (by decide +kernel)) (by show some (Value.int (σ.1 6)) = _; rw [hL]) dX7_layerAt_6 ?_
  refine lv_iconst (v := 1) hx hb dX7_layerAt_9 (by decide) ?_
  refine lv_isub hx hb dX7_layerAt_10 ?_
  refine xr_call (va_runS (As := [.int pl, .int 0, .int ((nI nL) - 1)]) (rest := [.ref M]) ⟨hx, hb, hml, hown, hts⟩ (c_X7_isIn l D cA pl 0 ((nI nL) - 1)) (va_cwS 3 hts gX7_layerAt_X7_isIn rfl rfl rfl (by decide +kernel) ⟨Nat.le_of_ble_eq_true rfl, Nat.le_of_ble_eq_true rfl⟩) (xPS hK trivial) rfl rfl hl.1 rfl (lv_room (Nat.le_of_ble_eq_true rfl)) dX7_layerAt_11 ⟨Nat.le_of_ble_eq_true rfl, Nat.le_of_ble_eq_true rfl⟩) ?_
  refine xb_eq (tgt := 21) hx hb dX7_layerAt_14 (by decide) (fun c_1 => ?_) (fun c_1 => ?_)
  · have c_1 : okN nL pl = false := (inB_okN (by omega) pl).symm.trans c_1
    refine lv_iconst (v := 1) hx hb dX7_layerAt_21 (by decide) ?_
    refine xw_calls (va_runV (As := [.int 1]) (rest := []) ⟨hx, hb, hml, hown, hts⟩ (c_X7_goes l D cA A M ad σ 1) (cwV 1 hts gX7_layerAt_X7_goes rfl rfl rfl (by decide +kernel) ⟨Nat.le_of_ble_eq_true rfl, Nat.le_of_ble_eq_true rfl⟩) (xPV hK hM.1 rfl hM) rfl rfl hl.1 rfl (lv_room (Nat.le_of_ble_eq_true rfl)) dX7_layerAt_22 ⟨Nat.le_of_ble_eq_true rfl, Nat.le_of_ble_eq_true rfl⟩) hS (fun _ _ h => h) (fun _ h => h) (fun H locs hM _ _ hS => ?_)
    refine lv_istore_n (lv' := [(3, .int (bI (gz 1))), (2, .int 0), (0, .ref M), (1, .int pl)]) hx hb dX7_layerAt_25 rfl hl (by decide) rfl (fun ls hl => ?_)
    refine lv_iconst (v := 0) hx hb dX7_layerAt_26 (by decide) ?_
    refine lv_istore (lv' := [(4, .int 0), (3, .int (bI (gz 1))), (2, .int 0), (0, .ref M), (1, .int pl)]) hx hb dX7_layerAt_27 hl (by decide) rfl (fun ls hl => ?_)
    refine lv_iload hx hb dX7_layerAt_29 (lv_at hl 0 rfl) ?_
    refine lv_aload_n hx hb dX7_layerAt_31 rfl (lv_at hl 3 rfl) ?_
    refine m_get (v := .int (nI nL)) hx hb hts h7 hown hK hM 6 (by decide) (hts (.fieldLink RX7 71 "ConfigBeaconModel" "layers" "I") (by decide +kernel)) (by show some (Value.int (σ.1 6)) = _; rw [hL]) dX7_layerAt_32 ?_
    refine lv_icmp_ge (tgt := 103) hx hb dX7_layerAt_35 (by decide) (fun c_2 => ?_) (fun c_2 => ?_)
    · have n_2 : nL ≤ 0 := (nI_leI (a := nL) (b := 0) (by omega) (by omega)).mp c_2
      refine lv_iload_n hx hb dX7_layerAt_103 rfl (lv_at hl 2 rfl) ?_
      exact xw_iret hx hb hr hlocks hS (mJ_no (w := 1) hM (by first | (simp [kLA, c_1, c_2, n_2, Int32.not_lt.mpr c_2]; done) | (simp_all [kLA]; done) | (simp [kLA, c_1, c_2, n_2, Int32.not_lt.mpr c_2]; omega)) (by decide) rfl (PE.rf.sg 25 _ (by decide))) (Nat.le_refl _) (Nat.le_refl _) dX7_layerAt_104
    · have n_2 : 0 < nL := Nat.not_le.mp (fun q => c_2 ((nI_leI (a := nL) (b := 0) (by omega) (by omega)).mpr q))
      refine lv_iload_n hx hb dX7_layerAt_38 rfl (lv_at hl 1 rfl) ?_
      refine xb_eq (tgt := 103) hx hb dX7_layerAt_39 (by decide) (fun _ => ?_) (fun c_3 => absurd c_3 (by decide))
      refine lv_iload_n hx hb dX7_layerAt_103 rfl (lv_at hl 2 rfl) ?_
      exact xw_iret hx hb hr hlocks hS (mJ_no (w := 1) hM (by first | (simp [kLA, c_1, c_2, n_2, Int32.not_le.mp c_2]; done) | (simp_all [kLA]; done) | (simp [kLA, c_1, c_2, n_2, Int32.not_le.mp c_2]; omega)) (by decide) rfl (PE.rf.sg 25 _ (by decide))) (Nat.le_refl _) (Nat.le_refl _) dX7_layerAt_104
  · have c_1 : okN nL pl = true := (inB_okN (by omega) pl).symm.trans c_1
    refine lv_iconst (v := 0) hx hb dX7_layerAt_17 (by decide) ?_
    refine lv_goto (tgt := 22) hx hb dX7_layerAt_18 (by decide) ?_
    refine xw_calls (va_runV (As := [.int 0]) (rest := []) ⟨hx, hb, hml, hown, hts⟩ (c_X7_goes l D cA A M ad σ 0) (cwV 1 hts gX7_layerAt_X7_goes rfl rfl rfl (by decide +kernel) ⟨Nat.le_of_ble_eq_true rfl, Nat.le_of_ble_eq_true rfl⟩) (xPV hK hM.1 rfl hM) rfl rfl hl.1 rfl (lv_room (Nat.le_of_ble_eq_true rfl)) dX7_layerAt_22 ⟨Nat.le_of_ble_eq_true rfl, Nat.le_of_ble_eq_true rfl⟩) hS (fun _ _ h => h) (fun _ h => h) (fun H locs hM _ _ hS => ?_)
    refine lv_istore_n (lv' := [(3, .int (bI (gz 0))), (2, .int 0), (0, .ref M), (1, .int pl)]) hx hb dX7_layerAt_25 rfl hl (by decide) rfl (fun ls hl => ?_)
    refine lv_iconst (v := 0) hx hb dX7_layerAt_26 (by decide) ?_
    refine lv_istore (lv' := [(4, .int 0), (3, .int (bI (gz 0))), (2, .int 0), (0, .ref M), (1, .int pl)]) hx hb dX7_layerAt_27 hl (by decide) rfl (fun ls hl => ?_)
    refine w_loopR (fun (i : Nat) ls => i ≤ nL ∧ lv_has ls 7 [(0, .ref M), (1, .int pl), (2, .int (lastF (fun a => decide (nI (plcF (σ.2.1 3) nL a) = pl)) i)), (3, .int (bI (gz 0))), (4, .int (nI i))]) (fun (i : Nat) => nL - i) ?_ 0 ⟨Nat.zero_le _, lv_sub hl [3, 4, 2, 1, 0] rfl⟩
    intro i ls h9 ih1
    obtain ⟨hi, hl⟩ := h9
    refine lv_iload hx hb dX7_layerAt_29 (lv_at hl 4 rfl) ?_
    refine lv_aload_n hx hb dX7_layerAt_31 rfl (lv_at hl 0 rfl) ?_
    refine m_get (v := .int (nI nL)) hx hb hts h7 hown hK hM 6 (by decide) (hts (.fieldLink RX7 71 "ConfigBeaconModel" "layers" "I") (by decide +kernel)) (by show some (Value.int (σ.1 6)) = _; rw [hL]) dX7_layerAt_32 ?_
    refine lv_icmp_ge (tgt := 103) hx hb dX7_layerAt_35 (by decide) (fun c_4 => ?_) (fun c_4 => ?_)
    · have n_4 : nL ≤ i := (nI_leI (a := nL) (b := i) (by omega) (by omega)).mp c_4
      refine lv_iload_n hx hb dX7_layerAt_103 rfl (lv_at hl 2 rfl) ?_
      exact xw_iret hx hb hr hlocks hS (mJ_ok hM (by first | (simp [kLA, c_1, c_4, n_4, Int32.not_lt.mpr c_4]; done) | (simp_all [kLA]; done) | (simp [kLA, c_1, c_4, n_4, Int32.not_lt.mpr c_4]; omega)) rfl (by rw [show i = nL by omega]; exact ⟨rfl, PE.rf.sg 25 _ (by decide)⟩)) (Nat.le_refl _) (Nat.le_refl _) dX7_layerAt_104
    · have n_4 : i < nL := Nat.not_le.mp (fun q => c_4 ((nI_leI (a := nL) (b := i) (by omega) (by omega)).mpr q))
      refine lv_iload_n hx hb dX7_layerAt_38 rfl (lv_at hl 3 rfl) ?_
      refine xb_eq (tgt := 103) hx hb dX7_layerAt_39 (by decide) (fun c_5 => absurd c_5 (by decide)) (fun _ => ?_)
      refine lv_iconst (v := 0) hx hb dX7_layerAt_42 (by decide) ?_
      refine lv_istore (lv' := [(5, .int 0), (0, .ref M), (1, .int pl), (2, .int (lastF (fun a => decide (nI (plcF (σ.2.1 3) nL a) = pl)) i)), (3, .int (bI (gz 0))), (4, .int (nI i))]) hx hb dX7_layerAt_43 hl (by decide) rfl (fun ls hl => ?_)
      refine lv_iconst (v := 0) hx hb dX7_layerAt_45 (by decide) ?_
      refine lv_istore (lv' := [(6, .int 0), (5, .int 0), (0, .ref M), (1, .int pl), (2, .int (lastF (fun a => decide (nI (plcF (σ.2.1 3) nL a) = pl)) i)), (3, .int (bI (gz 0))), (4, .int (nI i))]) hx hb dX7_layerAt_46 hl (by decide) rfl (fun ls hl => ?_)
      refine w_loopR (fun (j : Nat) ls => j ≤ nL ∧ lv_has ls 7 [(0, .ref M), (1, .int pl), (2, .int (lastF (fun a => decide (nI (plcF (σ.2.1 3) nL a) = pl)) i)), (3, .int (bI (gz 0))), (4, .int (nI i)), (5, .int (nI (cntF (fun b => ahd (σ.2.1 3) b i) j))), (6, .int (nI j))]) (fun (j : Nat) => nL - j) ?_ 0 ⟨Nat.zero_le _, lv_sub hl [2, 3, 4, 5, 6, 1, 0] rfl⟩
      intro j ls h9 ih2
      obtain ⟨hj, hl⟩ := h9
      refine lv_iload hx hb dX7_layerAt_48 (lv_at hl 6 rfl) ?_
      refine lv_aload_n hx hb dX7_layerAt_50 rfl (lv_at hl 0 rfl) ?_
      refine m_get (v := .int (nI nL)) hx hb hts h7 hown hK hM 6 (by decide) (hts (.fieldLink RX7 71 "ConfigBeaconModel" "layers" "I") (by decide +kernel)) (by show some (Value.int (σ.1 6)) = _; rw [hL]) dX7_layerAt_51 ?_
      refine lv_icmp_ge (tgt := 84) hx hb dX7_layerAt_54 (by decide) (fun c_6 => ?_) (fun c_6 => ?_)
      · have n_6 : nL ≤ j := (nI_leI (a := nL) (b := j) (by omega) (by omega)).mp c_6
        refine lv_iload hx hb dX7_layerAt_84 (lv_at hl 5 rfl) ?_
        refine xe_top (show nI (cntF (fun b => ahd (σ.2.1 3) b i) j) = nI (plcF (σ.2.1 3) nL i) from by rw [show j = nL by omega]; rfl) ?_
        refine lv_iload_n hx hb dX7_layerAt_86 rfl (lv_at hl 1 rfl) ?_
        refine lv_icmp_ne (tgt := 95) hx hb dX7_layerAt_87 (by decide) (fun c_7 => ?_) (fun c_7 => ?_)
        · refine lv_iload_n hx hb dX7_layerAt_95 rfl (lv_at hl 2 rfl) ?_
          refine xe_top (show (lastF (fun a => decide (nI (plcF (σ.2.1 3) nL a) = pl)) i) = lastF (fun a => decide (nI (plcF (σ.2.1 3) nL a) = pl)) (i + 1) from by simp [lastF, c_7]) ?_
          refine lv_istore_n (lv' := [(2, .int (lastF (fun a => decide (nI (plcF (σ.2.1 3) nL a) = pl)) (i + 1))), (0, .ref M), (1, .int pl), (3, .int (bI (gz 0))), (4, .int (nI i)), (5, .int (nI (cntF (fun b => ahd (σ.2.1 3) b i) j))), (6, .int (nI j))]) hx hb dX7_layerAt_96 rfl hl (by decide) rfl (fun ls hl => ?_)
          refine lv_iinc (v := (nI (i + 1))) (lv' := [(4, .int (nI (i + 1))), (2, .int (lastF (fun a => decide (nI (plcF (σ.2.1 3) nL a) = pl)) (i + 1))), (0, .ref M), (1, .int pl), (3, .int (bI (gz 0))), (5, .int (nI (cntF (fun b => ahd (σ.2.1 3) b i) j))), (6, .int (nI j))]) hx hb dX7_layerAt_97 hl (k := 4) rfl (ni_inc i) (by decide) rfl (fun ls hl => ?_)
          refine lv_goto (tgt := 29) hx hb dX7_layerAt_100 (by decide) ?_
          exact ih1 (i + 1) _ ⟨(by omega), lv_sub hl [2, 3, 1, 4, 0] rfl⟩ (by omega)
        · refine lv_iload hx hb dX7_layerAt_90 (lv_at hl 4 rfl) ?_
          refine lv_goto (tgt := 96) hx hb dX7_layerAt_92 (by decide) ?_
          refine xe_top (show (nI i) = lastF (fun a => decide (nI (plcF (σ.2.1 3) nL a) = pl)) (i + 1) from by simp [lastF, c_7]) ?_
          refine lv_istore_n (lv' := [(2, .int (lastF (fun a => decide (nI (plcF (σ.2.1 3) nL a) = pl)) (i + 1))), (0, .ref M), (1, .int pl), (3, .int (bI (gz 0))), (4, .int (nI i)), (5, .int (nI (cntF (fun b => ahd (σ.2.1 3) b i) j))), (6, .int (nI j))]) hx hb dX7_layerAt_96 rfl hl (by decide) rfl (fun ls hl => ?_)
          refine lv_iinc (v := (nI (i + 1))) (lv' := [(4, .int (nI (i + 1))), (2, .int (lastF (fun a => decide (nI (plcF (σ.2.1 3) nL a) = pl)) (i + 1))), (0, .ref M), (1, .int pl), (3, .int (bI (gz 0))), (5, .int (nI (cntF (fun b => ahd (σ.2.1 3) b i) j))), (6, .int (nI j))]) hx hb dX7_layerAt_97 hl (k := 4) rfl (ni_inc i) (by decide) rfl (fun ls hl => ?_)
          refine lv_goto (tgt := 29) hx hb dX7_layerAt_100 (by decide) ?_
          exact ih1 (i + 1) _ ⟨(by omega), lv_sub hl [2, 3, 1, 4, 0] rfl⟩ (by omega)
      · have n_6 : j < nL := Nat.not_le.mp (fun q => c_6 ((nI_leI (a := nL) (b := j) (by omega) (by omega)).mpr q))
        refine lv_iload hx hb dX7_layerAt_57 (lv_at hl 5 rfl) ?_
        refine lv_aload_n hx hb dX7_layerAt_59 rfl (lv_at hl 0 rfl) ?_
        refine lv_iload hx hb dX7_layerAt_60 (lv_at hl 6 rfl) ?_
        refine lv_iload hx hb dX7_layerAt_62 (lv_at hl 4 rfl) ?_
        refine xr_call (va_runV (As := [.int (nI j), .int (nI i)]) (rest := [.int (nI (cntF (fun b => ahd (σ.2.1 3) b i) j))]) ⟨hx, hb, hml, hown, hts⟩ (c_X7_isAhead l D cA A M ad (sg σ 25 0) j i (by omega) (by omega)) (cwV 2 hts gX7_layerAt_X7_isAhead rfl rfl rfl (by decide +kernel) ⟨Nat.le_of_ble_eq_true rfl, Nat.le_of_ble_eq_true rfl⟩) (xPV hK hM.1 rfl hM) rfl rfl hl.1 rfl (lv_room (Nat.le_of_ble_eq_true rfl)) dX7_layerAt_64 ⟨Nat.le_of_ble_eq_true rfl, Nat.le_of_ble_eq_true rfl⟩) ?_
        refine xb_eq (tgt := 74) hx hb dX7_layerAt_67 (by decide) (fun c_8 => ?_) (fun c_8 => ?_)
        · have c_8 : (ahd (σ.2.1 3) j i) = false := c_8
          refine lv_iconst (v := 0) hx hb dX7_layerAt_74 (by decide) ?_
          refine xe_iadd hx hb (nI_add (cntF (fun b => ahd (σ.2.1 3) b i) j) 0) dX7_layerAt_75 ?_
          refine xe_top (show nI (cntF (fun b => ahd (σ.2.1 3) b i) j + 0) = nI (cntF (fun b => ahd (σ.2.1 3) b i) (j + 1)) from by rw [cntF_f (by simp [c_8])]; rfl) ?_
          refine lv_istore (lv' := [(5, .int (nI (cntF (fun b => ahd (σ.2.1 3) b i) (j + 1)))), (0, .ref M), (1, .int pl), (2, .int (lastF (fun a => decide (nI (plcF (σ.2.1 3) nL a) = pl)) i)), (3, .int (bI (gz 0))), (4, .int (nI i)), (6, .int (nI j))]) hx hb dX7_layerAt_76 hl (by decide) rfl (fun ls hl => ?_)
          refine lv_iinc (v := (nI (j + 1))) (lv' := [(6, .int (nI (j + 1))), (5, .int (nI (cntF (fun b => ahd (σ.2.1 3) b i) (j + 1)))), (0, .ref M), (1, .int pl), (2, .int (lastF (fun a => decide (nI (plcF (σ.2.1 3) nL a) = pl)) i)), (3, .int (bI (gz 0))), (4, .int (nI i))]) hx hb dX7_layerAt_78 hl (k := 6) rfl (ni_inc j) (by decide) rfl (fun ls hl => ?_)
          refine lv_goto (tgt := 48) hx hb dX7_layerAt_81 (by decide) ?_
          exact ih2 (j + 1) _ ⟨(by omega), lv_sub hl [2, 3, 4, 5, 6, 1, 0] rfl⟩ (by omega)
        · have c_8 : (ahd (σ.2.1 3) j i) = true := c_8
          refine lv_iconst (v := 1) hx hb dX7_layerAt_70 (by decide) ?_
          refine lv_goto (tgt := 75) hx hb dX7_layerAt_71 (by decide) ?_
          refine xe_iadd hx hb (nI_add (cntF (fun b => ahd (σ.2.1 3) b i) j) 1) dX7_layerAt_75 ?_
          refine xe_top (show nI (cntF (fun b => ahd (σ.2.1 3) b i) j + 1) = nI (cntF (fun b => ahd (σ.2.1 3) b i) (j + 1)) from by rw [cntF_t (by simp [c_8])]) ?_
          refine lv_istore (lv' := [(5, .int (nI (cntF (fun b => ahd (σ.2.1 3) b i) (j + 1)))), (0, .ref M), (1, .int pl), (2, .int (lastF (fun a => decide (nI (plcF (σ.2.1 3) nL a) = pl)) i)), (3, .int (bI (gz 0))), (4, .int (nI i)), (6, .int (nI j))]) hx hb dX7_layerAt_76 hl (by decide) rfl (fun ls hl => ?_)
          refine lv_iinc (v := (nI (j + 1))) (lv' := [(6, .int (nI (j + 1))), (5, .int (nI (cntF (fun b => ahd (σ.2.1 3) b i) (j + 1)))), (0, .ref M), (1, .int pl), (2, .int (lastF (fun a => decide (nI (plcF (σ.2.1 3) nL a) = pl)) i)), (3, .int (bI (gz 0))), (4, .int (nI i))]) hx hb dX7_layerAt_78 hl (k := 6) rfl (ni_inc j) (by decide) rfl (fun ls hl => ?_)
          refine lv_goto (tgt := 48) hx hb dX7_layerAt_81 (by decide) ?_
          exact ih2 (j + 1) _ ⟨(by omega), lv_sub hl [2, 3, 4, 5, 6, 1, 0] rfl⟩ (by omega)
set_option maxHeartbeats 4000000 in
set_option maxRecDepth 100000 in
theorem c_X7_rollback (l : Launch) (D : va_G) (cA : Nat → ClassId) (A : Nat → Prop) (M : Nat) (ad : Nat → Nat) (σ : MS) (to9 : Int32) (o : Int32) (nV : Nat) (hV : σ.1 13 = nI nV) (hV2 : nV < 512) : Met l yX7_rollback wsX7_rollback (rmK 2 0 0) (xP D cA [.ref M, .int to9, .int o] (MR D cA A M ad σ)) (xW (mJ D cA A M ad σ (kRo σ nV to9 o) (fun r τ => r = some (.int (nI (cntF (difF σ.2.1 (ix to9)) 128))) ∧ PE τ (if cntF (difF σ.2.1 (ix to9)) 128 = 0 then σ else rollS σ nV (ix to9)))) A) 0 0 A := by
  refine Met.ofW (cc := cX7_rollback) (maxL := 7) (ret := (some .int)) (by decide) rfl ?_
  intro p e s m args below meth c s₁ B hml hv
  obtain ⟨rfl, hK, hI⟩ := hv
  have hx := B.exec
  have hb := B.bytes
  have hr := B.returns
  have hts := atoms_spec (ws := wsX7_rollback) B.pre
  have hown : s.vm.findClass RX7 = some m.cls := findClass_of_methodNamed B.named
  have hlocks := B.notSynchronized
  have hl := lv_entry ([.ref M, .int to9, .int o]) (n := 7) (Nat.le_of_ble_eq_true rfl)
  rw [lg_entry_eq]
  generalize (lg_sl ([.ref M, .int to9, .int o]) ++ List.replicate (7 - (lg_sl ([.ref M, .int to9, .int o])).length) Slot.unset).toArray = ls at hl ⊢
  have hl : lv_has ls 7 [(0, .ref M), (1, .int to9), (2, .int o)] := hl
  have hM : MR D cA A M ad σ s.heap := hI
  have h7 : ∀ w ∈ wsX70, w ∈ wsX7_rollback := fun _ h => List.mem_cons_of_mem _ (List.mem_append_right _ h)
  have hS : va_S A s.heap s.heap [] := va_S.rf
  refine lv_aload_n hx hb dX7_rollback_0 rfl (lv_at hl 0 rfl) ?_
  refine lv_iload_n hx hb dX7_rollback_1 rfl (lv_at hl 1 rfl) ?_
  refine lv_iconst (v := 0) hx hb dX7_rollback_2 (by decide) ?_
  refine lv_aload_n hx hb dX7_rollback_3 rfl (lv_at hl 0 rfl) ?_
  refine m_get (v := .int (nI nV)) hx hb hts h7 hown hK hM 13 (by decide) (hts (.fieldLink RX7 94 "ConfigBeaconModel" "version" "I") (by decide +kernel)) (by show some (Value.int (σ.1 13)) = _; rw [hV]) dX7_rollback_4 ?_
  refine xr_call (va_runS (As := [.int to9, .int 0, .int (nI nV)]) (rest := [.ref M]) ⟨hx, hb, hml, hown, hts⟩ (c_X7_isIn l D cA to9 0 (nI nV)) (va_cwS 3 hts gX7_rollback_X7_isIn rfl rfl rfl (by decide +kernel) ⟨Nat.le_of_ble_eq_true rfl, Nat.le_of_ble_eq_true rfl⟩) (xPS hK trivial) rfl rfl hl.1 rfl (lv_room (Nat.le_of_ble_eq_true rfl)) dX7_rollback_7 ⟨Nat.le_of_ble_eq_true rfl, Nat.le_of_ble_eq_true rfl⟩) ?_
  refine xb_ne (tgt := 17) hx hb dX7_rollback_10 (by decide) (fun c_1 => ?_) (fun c_1 => ?_)
  · have c_1 : okN (nV + 1) to9 = true := (inB_okN2 (by omega) to9).symm.trans c_1
    obtain ⟨j_to, hj_to, rfl⟩ := okN_of (by omega) c_1
    have eto : ix (nI j_to) = j_to := ix_nI (by omega)
    refine lv_iload_n hx hb dX7_rollback_17 rfl (lv_at hl 2 rfl) ?_
    refine xr_call (va_runS (As := [.int o]) (rest := [.ref M]) ⟨hx, hb, hml, hown, hts⟩ (c_X7_isOwner l D cA o) (va_cwS 1 hts gX7_rollback_X7_isOwner rfl rfl rfl (by decide +kernel) ⟨Nat.le_of_ble_eq_true rfl, Nat.le_of_ble_eq_true rfl⟩) (xPS hK trivial) rfl rfl hl.1 rfl (lv_room (Nat.le_of_ble_eq_true rfl)) dX7_rollback_18 ⟨Nat.le_of_ble_eq_true rfl, Nat.le_of_ble_eq_true rfl⟩) ?_
    refine xb_eq (tgt := 28) hx hb dX7_rollback_21 (by decide) (fun c_2 => ?_) (fun c_2 => ?_)
    · refine lv_iconst (v := 2) hx hb dX7_rollback_28 (by decide) ?_
      refine xw_calls (va_runV (As := [.int 2]) (rest := []) ⟨hx, hb, hml, hown, hts⟩ (c_X7_goes l D cA A M ad σ 2) (cwV 1 hts gX7_rollback_X7_goes rfl rfl rfl (by decide +kernel) ⟨Nat.le_of_ble_eq_true rfl, Nat.le_of_ble_eq_true rfl⟩) (xPV hK hM.1 rfl hM) rfl rfl hl.1 rfl (lv_room (Nat.le_of_ble_eq_true rfl)) dX7_rollback_29 ⟨Nat.le_of_ble_eq_true rfl, Nat.le_of_ble_eq_true rfl⟩) hS (fun _ _ h => h) (fun _ h => h) (fun H locs hM _ _ hS => ?_)
      refine xb_ne (tgt := 37) hx hb dX7_rollback_32 (by decide) (fun c_3 => absurd c_3 (by decide)) (fun _ => ?_)
      refine lv_iconst (v := 0) hx hb dX7_rollback_35 (by decide) ?_
      exact xw_iret hx hb hr hlocks hS (mJ_no (w := 2) hM (by simp [kRo, c_1, c_2]) (by decide) rfl (PE.rf.sg 25 _ (by decide))) (Nat.le_refl _) (Nat.le_refl _) dX7_rollback_36
    · refine lv_iconst (v := 0) hx hb dX7_rollback_24 (by decide) ?_
      refine lv_goto (tgt := 29) hx hb dX7_rollback_25 (by decide) ?_
      refine xw_calls (va_runV (As := [.int 0]) (rest := []) ⟨hx, hb, hml, hown, hts⟩ (c_X7_goes l D cA A M ad σ 0) (cwV 1 hts gX7_rollback_X7_goes rfl rfl rfl (by decide +kernel) ⟨Nat.le_of_ble_eq_true rfl, Nat.le_of_ble_eq_true rfl⟩) (xPV hK hM.1 rfl hM) rfl rfl hl.1 rfl (lv_room (Nat.le_of_ble_eq_true rfl)) dX7_rollback_29 ⟨Nat.le_of_ble_eq_true rfl, Nat.le_of_ble_eq_true rfl⟩) hS (fun _ _ h => h) (fun _ h => h) (fun H locs hM _ _ hS => ?_)
      refine xb_ne (tgt := 37) hx hb dX7_rollback_32 (by decide) (fun _ => ?_) (fun c_4 => absurd c_4 (by decide))
      refine lv_iconst (v := 0) hx hb dX7_rollback_37 (by decide) ?_
      refine lv_istore_n (lv' := [(3, .int 0), (0, .ref M), (1, .int (nI j_to)), (2, .int o)]) hx hb dX7_rollback_38 rfl hl (by decide) rfl (fun ls hl => ?_)
      refine lv_iconst (v := 0) hx hb dX7_rollback_39 (by decide) ?_
      refine lv_istore (lv' := [(4, .int 0), (3, .int 0), (0, .ref M), (1, .int (nI j_to)), (2, .int o)]) hx hb dX7_rollback_40 hl (by decide) rfl (fun ls hl => ?_)
      refine lv_iconst (v := 0) hx hb dX7_rollback_42 (by decide) ?_
      refine lv_istore (lv' := [(5, .int 0), (4, .int 0), (3, .int 0), (0, .ref M), (1, .int (nI j_to)), (2, .int o)]) hx hb dX7_rollback_43 hl (by decide) rfl (fun ls hl => ?_)
      refine w_loopR (fun (i : Nat) ls => i ≤ 128 ∧ lv_has ls 7 [(0, .ref M), (1, .int (nI j_to)), (2, .int o), (3, .int (nI (cntF (difF σ.2.1 j_to) i))), (4, .int (bI (anyF (barR σ.2.1 j_to o) i))), (5, .int (nI i))]) (fun (i : Nat) => 128 - i) ?_ 0 ⟨Nat.zero_le _, lv_sub hl [3, 4, 5, 2, 1, 0] rfl⟩
      intro i ls h9 ih1
      obtain ⟨hi, hl⟩ := h9
      refine lv_iload hx hb dX7_rollback_45 (lv_at hl 5 rfl) ?_
      refine lv_sipush (v := 128) hx hb dX7_rollback_47 (by decide) ?_
      refine lv_icmp_ge (tgt := 139) hx hb dX7_rollback_50 (by decide) (fun c_5 => ?_) (fun c_5 => ?_)
      · have n_5 : 128 ≤ i := (nI_leI (a := 128) (b := i) (by omega) (by omega)).mp c_5
        refine lv_aload_n hx hb dX7_rollback_139 rfl (lv_at hl 0 rfl) ?_
        refine lv_iload hx hb dX7_rollback_140 (lv_at hl 4 rfl) ?_
        refine xb_eq (tgt := 149) hx hb dX7_rollback_142 (by decide) (fun c_6 => ?_) (fun c_6 => ?_)
        · have c_6 : anyF (barR σ.2.1 j_to o) 128 = false := by rw [show 128 = i by omega]; exact c_6
          refine lv_iconst (v := 0) hx hb dX7_rollback_149 (by decide) ?_
          refine xw_calls (va_runV (As := [.int 0]) (rest := []) ⟨hx, hb, hml, hown, hts⟩ (c_X7_goes l D cA A M ad (sg σ 25 0) 0) (cwV 1 hts gX7_rollback_X7_goes rfl rfl rfl (by decide +kernel) ⟨Nat.le_of_ble_eq_true rfl, Nat.le_of_ble_eq_true rfl⟩) (xPV hK hM.1 rfl hM) rfl rfl hl.1 rfl (lv_room (Nat.le_of_ble_eq_true rfl)) dX7_rollback_150 ⟨Nat.le_of_ble_eq_true rfl, Nat.le_of_ble_eq_true rfl⟩) hS (fun _ _ h => h) (fun _ h => h) (fun H locs hM _ _ hS => ?_)
          refine xb_eq (tgt := 160) hx hb dX7_rollback_153 (by decide) (fun c_7 => absurd c_7 (by decide)) (fun _ => ?_)
          refine lv_iload_n hx hb dX7_rollback_156 rfl (lv_at hl 3 rfl) ?_
          refine xe_top (show nI (cntF (difF σ.2.1 j_to) i) = nI (cntF (difF σ.2.1 j_to) 128) from by rw [show i = 128 by omega]) ?_
          have hcle := cntF_le (difF σ.2.1 j_to) 128
          refine lv_if_ne (tgt := 162) hx hb dX7_rollback_157 (by decide) (fun c_8 => ?_) (fun c_8 => ?_)
          · have n_8 : ¬ (cntF (difF σ.2.1 j_to) 128) = 0 := fun q => c_8 ((nI_eq (a := (cntF (difF σ.2.1 j_to) 128)) (b := 0) (by omega) (by omega)).mpr q)
            obtain rfl : i = 128 := by omega
            refine lv_iconst (v := 0) hx hb dX7_rollback_162 (by decide) ?_
            refine lv_istore (lv' := [(5, .int 0), (0, .ref M), (1, .int (nI j_to)), (2, .int o), (3, .int (nI (cntF (difF σ.2.1 j_to) 128))), (4, .int (bI (anyF (barR σ.2.1 j_to o) 128)))]) hx hb dX7_rollback_163 hl (by decide) rfl (fun ls hl => ?_)
            refine w_loop (fun (k2 : Nat) H locs ls => k2 ≤ 128 ∧ MR D cA A M ad (rbS (sg (sg σ 25 0) 25 0) nV j_to k2) H ∧ va_S A s.heap H locs ∧ lv_has ls 7 [(0, .ref M), (1, .int (nI j_to)), (2, .int o), (3, .int (nI (cntF (difF σ.2.1 j_to) 128))), (5, .int (nI k2))]) (fun (k2 : Nat) => 128 - k2) ?_ 0 ⟨Nat.zero_le _, (by rw [rbS_0]; exact hM), hS, lv_sub hl [1, 2, 3, 4, 0] rfl⟩
            intro k2 H locs ls h9 ih2
            obtain ⟨hi, hM, hS, hl⟩ := h9
            refine lv_iload hx hb dX7_rollback_165 (lv_at hl 4 rfl) ?_
            refine lv_sipush (v := 128) hx hb dX7_rollback_167 (by decide) ?_
            refine lv_icmp_ge (tgt := 245) hx hb dX7_rollback_170 (by decide) (fun c_9 => ?_) (fun c_9 => ?_)
            · have n_9 : 128 ≤ k2 := (nI_leI (a := 128) (b := k2) (by omega) (by omega)).mp c_9
              refine lv_aload_n hx hb dX7_rollback_245 rfl (lv_at hl 0 rfl) ?_
              refine xw_calln (va_runV (As := []) (rest := []) ⟨hx, hb, hml, hown, hts⟩ (c_X7_versions l D cA A M ad (rbS (sg (sg σ 25 0) 25 0) nV j_to k2) nV hV hV2) (cwV 0 hts gX7_rollback_X7_versions rfl rfl rfl (by decide +kernel) ⟨Nat.le_of_ble_eq_true rfl, Nat.le_of_ble_eq_true rfl⟩) (xPV hK hM.1 rfl hM) rfl rfl hl.1 rfl (lv_room (Nat.le_of_ble_eq_true rfl)) dX7_rollback_246 ⟨Nat.le_of_ble_eq_true rfl, Nat.le_of_ble_eq_true rfl⟩) hS (fun _ _ h => h) (fun _ h => h) (fun H locs hM _ _ hS => ?_)
              refine lv_iload_n hx hb dX7_rollback_249 rfl (lv_at hl 3 rfl) ?_
              exact xw_iret hx hb hr hlocks hS (mJ_ok hM (by simp [kRo, eto, c_1, c_2, c_5, c_6, c_8, c_9]) rfl (by rw [eto]; refine ⟨rfl, ?_⟩; rw [if_neg n_8, show k2 = 128 by omega]; exact (show PE (rollS (sg (sg σ 25 0) 25 0) nV j_to) (rollS σ nV j_to) from PE_rollS ((PE.rf.sg 25 _ (by decide)).sg 25 _ (by decide)) nV j_to))) (Nat.le_refl _) (Nat.le_refl _) dX7_rollback_250
            · have n_9 : k2 < 128 := Nat.not_le.mp (fun q => c_9 ((nI_leI (a := 128) (b := k2) (by omega) (by omega)).mpr q))
              refine lv_aload_n hx hb dX7_rollback_173 rfl (lv_at hl 0 rfl) ?_
              refine m_get (v := .ref (ad 8)) hx hb hts h7 hown hK hM 8 (by decide) (hts (.fieldLink RX7 28 "ConfigBeaconModel" "changes" "[I") (by decide +kernel)) rfl dX7_rollback_174 ?_
              refine lv_iload hx hb dX7_rollback_177 (lv_at hl 4 rfl) ?_
              refine lv_aload_n hx hb dX7_rollback_179 rfl (lv_at hl 0 rfl) ?_
              refine m_get (v := .ref (ad 12)) hx hb hts h7 hown hK hM 12 (by decide) (hts (.fieldLink RX7 41 "ConfigBeaconModel" "states" "[I") (by decide +kernel)) rfl dX7_rollback_180 ?_
              refine lv_sipush (v := 128) hx hb dX7_rollback_183 (by decide) ?_
              refine lv_iload_n hx hb dX7_rollback_186 rfl (lv_at hl 1 rfl) ?_
              refine xe_imul hx hb (pk_mul 128 j_to) dX7_rollback_187 ?_
              refine lv_iload hx hb dX7_rollback_188 (lv_at hl 4 rfl) ?_
              refine xe_iadd hx hb (nI_add (128 * j_to) k2) dX7_rollback_190 ?_
              refine m_ald hx hb hK hM 12 (by decide) (n := 65664) rfl ((128 * j_to) + k2) rfl (by omega) (by decide) dX7_rollback_191 (v := (σ.2.1 12 ((128 * j_to) + k2))) rfl ?_
              refine lv_aload_n hx hb dX7_rollback_192 rfl (lv_at hl 0 rfl) ?_
              refine m_get (v := .ref (ad 7)) hx hb hts h7 hown hK hM 7 (by decide) (hts (.fieldLink RX7 25 "ConfigBeaconModel" "entries" "[I") (by decide +kernel)) rfl dX7_rollback_193 ?_
              refine lv_iload hx hb dX7_rollback_196 (lv_at hl 4 rfl) ?_
              refine m_ald hx hb hK hM 7 (by decide) (n := 128) rfl k2 rfl (by omega) (by decide) dX7_rollback_198 (v := σ.2.1 7 k2) (rbS_7 _ _ _ _) ?_
              refine lv_icmp_eq (tgt := 211) hx hb dX7_rollback_199 (by decide) (fun c_10 => ?_) (fun c_10 => ?_)
              · refine lv_aload_n hx hb dX7_rollback_211 rfl (lv_at hl 0 rfl) ?_
                refine m_get (v := .ref (ad 8)) hx hb hts h7 hown hK hM 8 (by decide) (hts (.fieldLink RX7 28 "ConfigBeaconModel" "changes" "[I") (by decide +kernel)) rfl dX7_rollback_212 ?_
                refine lv_iload hx hb dX7_rollback_215 (lv_at hl 4 rfl) ?_
                refine m_ald hx hb hK hM 8 (by decide) (n := 128) rfl k2 rfl (by omega) (by decide) dX7_rollback_217 (v := σ.2.1 8 k2) (rbS_8 _ _ _ _) ?_
                refine xe_top (show (σ.2.1 8 k2) = (if σ.2.1 12 (128 * j_to + k2) = σ.2.1 7 k2 then σ.2.1 8 k2 else nI (nV + 1)) from by rw [if_pos c_10]) ?_
                refine m_ast hx hb hK hM hS 8 (by decide) (n := 128) rfl k2 rfl (by omega) (by decide) dX7_rollback_218 (fun H locs hM hS => ?_)
                refine lv_aload_n hx hb dX7_rollback_219 rfl (lv_at hl 0 rfl) ?_
                refine m_get (v := .ref (ad 7)) hx hb hts h7 hown hK hM 7 (by decide) (hts (.fieldLink RX7 25 "ConfigBeaconModel" "entries" "[I") (by decide +kernel)) rfl dX7_rollback_220 ?_
                refine lv_iload hx hb dX7_rollback_223 (lv_at hl 4 rfl) ?_
                refine lv_aload_n hx hb dX7_rollback_225 rfl (lv_at hl 0 rfl) ?_
                refine m_get (v := .ref (ad 12)) hx hb hts h7 hown hK hM 12 (by decide) (hts (.fieldLink RX7 41 "ConfigBeaconModel" "states" "[I") (by decide +kernel)) rfl dX7_rollback_226 ?_
                refine lv_sipush (v := 128) hx hb dX7_rollback_229 (by decide) ?_
                refine lv_iload_n hx hb dX7_rollback_232 rfl (lv_at hl 1 rfl) ?_
                refine xe_imul hx hb (pk_mul 128 j_to) dX7_rollback_233 ?_
                refine lv_iload hx hb dX7_rollback_234 (lv_at hl 4 rfl) ?_
                refine xe_iadd hx hb (nI_add (128 * j_to) k2) dX7_rollback_236 ?_
                refine m_ald hx hb hK hM 12 (by decide) (n := 65664) rfl ((128 * j_to) + k2) rfl (by omega) (by decide) dX7_rollback_237 (v := (σ.2.1 12 ((128 * j_to) + k2))) rfl ?_
                refine m_ast hx hb hK hM hS 7 (by decide) (n := 128) rfl k2 rfl (by omega) (by decide) dX7_rollback_238 (fun H locs hM hS => ?_)
                refine lv_iinc (v := (nI (k2 + 1))) (lv' := [(5, .int (nI (k2 + 1))), (0, .ref M), (1, .int (nI j_to)), (2, .int o), (3, .int (nI (cntF (difF σ.2.1 j_to) 128)))]) hx hb dX7_rollback_239 hl (k := 4) rfl (ni_inc k2) (by decide) rfl (fun ls hl => ?_)
                refine lv_goto (tgt := 165) hx hb dX7_rollback_242 (by decide) ?_
                exact ih2 (k2 + 1) _ _ _ ⟨(by omega), (by rw [← rbS_1]; exact hM), hS, lv_sub hl [1, 2, 3, 4, 0] rfl⟩ (by omega)
              · refine lv_aload_n hx hb dX7_rollback_202 rfl (lv_at hl 0 rfl) ?_
                refine m_get (v := .int (nI nV)) hx hb hts h7 hown hK hM 13 (by decide) (hts (.fieldLink RX7 94 "ConfigBeaconModel" "version" "I") (by decide +kernel)) (by show some (Value.int (σ.1 13)) = _; rw [hV]) dX7_rollback_203 ?_
                refine lv_iconst (v := 1) hx hb dX7_rollback_206 (by decide) ?_
                refine xe_iadd hx hb (nI_add nV 1) dX7_rollback_207 ?_
                refine lv_goto (tgt := 218) hx hb dX7_rollback_208 (by decide) ?_
                refine xe_top (show (nI (nV + 1)) = (if σ.2.1 12 (128 * j_to + k2) = σ.2.1 7 k2 then σ.2.1 8 k2 else nI (nV + 1)) from by rw [if_neg c_10]) ?_
                refine m_ast hx hb hK hM hS 8 (by decide) (n := 128) rfl k2 rfl (by omega) (by decide) dX7_rollback_218 (fun H locs hM hS => ?_)
                refine lv_aload_n hx hb dX7_rollback_219 rfl (lv_at hl 0 rfl) ?_
                refine m_get (v := .ref (ad 7)) hx hb hts h7 hown hK hM 7 (by decide) (hts (.fieldLink RX7 25 "ConfigBeaconModel" "entries" "[I") (by decide +kernel)) rfl dX7_rollback_220 ?_
                refine lv_iload hx hb dX7_rollback_223 (lv_at hl 4 rfl) ?_
                refine lv_aload_n hx hb dX7_rollback_225 rfl (lv_at hl 0 rfl) ?_
                refine m_get (v := .ref (ad 12)) hx hb hts h7 hown hK hM 12 (by decide) (hts (.fieldLink RX7 41 "ConfigBeaconModel" "states" "[I") (by decide +kernel)) rfl dX7_rollback_226 ?_
                refine lv_sipush (v := 128) hx hb dX7_rollback_229 (by decide) ?_
                refine lv_iload_n hx hb dX7_rollback_232 rfl (lv_at hl 1 rfl) ?_
                refine xe_imul hx hb (pk_mul 128 j_to) dX7_rollback_233 ?_
                refine lv_iload hx hb dX7_rollback_234 (lv_at hl 4 rfl) ?_
                refine xe_iadd hx hb (nI_add (128 * j_to) k2) dX7_rollback_236 ?_
                refine m_ald hx hb hK hM 12 (by decide) (n := 65664) rfl ((128 * j_to) + k2) rfl (by omega) (by decide) dX7_rollback_237 (v := (σ.2.1 12 ((128 * j_to) + k2))) rfl ?_
                refine m_ast hx hb hK hM hS 7 (by decide) (n := 128) rfl k2 rfl (by omega) (by decide) dX7_rollback_238 (fun H locs hM hS => ?_)
                refine lv_iinc (v := (nI (k2 + 1))) (lv' := [(5, .int (nI (k2 + 1))), (0, .ref M), (1, .int (nI j_to)), (2, .int o), (3, .int (nI (cntF (difF σ.2.1 j_to) 128)))]) hx hb dX7_rollback_239 hl (k := 4) rfl (ni_inc k2) (by decide) rfl (fun ls hl => ?_)
                refine lv_goto (tgt := 165) hx hb dX7_rollback_242 (by decide) ?_
                exact ih2 (k2 + 1) _ _ _ ⟨(by omega), (by rw [← rbS_1]; exact hM), hS, lv_sub hl [1, 2, 3, 4, 0] rfl⟩ (by omega)
          · have n_8 : (cntF (difF σ.2.1 j_to) 128) = 0 := (nI_eq (a := (cntF (difF σ.2.1 j_to) 128)) (b := 0) (by omega) (by omega)).mp c_8
            refine lv_iconst (v := 0) hx hb dX7_rollback_160 (by decide) ?_
            exact xw_iret hx hb hr hlocks hS (mJ_ok hM (by simp [kRo, eto, c_1, c_2, c_5, c_6, c_8]) rfl (by rw [eto]; refine ⟨by rw [n_8]; rfl, ?_⟩; rw [if_pos n_8]; exact (PE.rf.sg 25 _ (by decide)).sg 25 _ (by decide))) (Nat.le_refl _) (Nat.le_refl _) dX7_rollback_161
        · have c_6 : anyF (barR σ.2.1 j_to o) 128 = true := by rw [show 128 = i by omega]; exact c_6
          refine lv_iconst (v := 3) hx hb dX7_rollback_145 (by decide) ?_
          refine lv_goto (tgt := 150) hx hb dX7_rollback_146 (by decide) ?_
          refine xw_calls (va_runV (As := [.int 3]) (rest := []) ⟨hx, hb, hml, hown, hts⟩ (c_X7_goes l D cA A M ad (sg σ 25 0) 3) (cwV 1 hts gX7_rollback_X7_goes rfl rfl rfl (by decide +kernel) ⟨Nat.le_of_ble_eq_true rfl, Nat.le_of_ble_eq_true rfl⟩) (xPV hK hM.1 rfl hM) rfl rfl hl.1 rfl (lv_room (Nat.le_of_ble_eq_true rfl)) dX7_rollback_150 ⟨Nat.le_of_ble_eq_true rfl, Nat.le_of_ble_eq_true rfl⟩) hS (fun _ _ h => h) (fun _ h => h) (fun H locs hM _ _ hS => ?_)
          refine xb_eq (tgt := 160) hx hb dX7_rollback_153 (by decide) (fun _ => ?_) (fun c_11 => absurd c_11 (by decide))
          refine lv_iconst (v := 0) hx hb dX7_rollback_160 (by decide) ?_
          exact xw_iret hx hb hr hlocks hS (mJ_no (w := 3) hM (by simp [kRo, c_1, c_2, c_5, c_6, eto]) (by decide) rfl ((PE.rf.sg 25 _ (by decide)).sg 25 _ (by decide))) (Nat.le_refl _) (Nat.le_refl _) dX7_rollback_161
      · have n_5 : i < 128 := Nat.not_le.mp (fun q => c_5 ((nI_leI (a := 128) (b := i) (by omega) (by omega)).mpr q))
        refine lv_aload_n hx hb dX7_rollback_53 rfl (lv_at hl 0 rfl) ?_
        refine m_get (v := .ref (ad 12)) hx hb hts h7 hown hK hM 12 (by decide) (hts (.fieldLink RX7 41 "ConfigBeaconModel" "states" "[I") (by decide +kernel)) rfl dX7_rollback_54 ?_
        refine lv_sipush (v := 128) hx hb dX7_rollback_57 (by decide) ?_
        refine lv_iload_n hx hb dX7_rollback_60 rfl (lv_at hl 1 rfl) ?_
        refine xe_imul hx hb (pk_mul 128 j_to) dX7_rollback_61 ?_
        refine lv_iload hx hb dX7_rollback_62 (lv_at hl 5 rfl) ?_
        refine xe_iadd hx hb (nI_add (128 * j_to) i) dX7_rollback_64 ?_
        refine m_ald hx hb hK hM 12 (by decide) (n := 65664) rfl ((128 * j_to) + i) rfl (by omega) (by decide) dX7_rollback_65 (v := (σ.2.1 12 ((128 * j_to) + i))) rfl ?_
        refine lv_aload_n hx hb dX7_rollback_66 rfl (lv_at hl 0 rfl) ?_
        refine m_get (v := .ref (ad 7)) hx hb hts h7 hown hK hM 7 (by decide) (hts (.fieldLink RX7 25 "ConfigBeaconModel" "entries" "[I") (by decide +kernel)) rfl dX7_rollback_67 ?_
        refine lv_iload hx hb dX7_rollback_70 (lv_at hl 5 rfl) ?_
        refine m_ald hx hb hK hM 7 (by decide) (n := 128) rfl i rfl (by omega) (by decide) dX7_rollback_72 (v := (σ.2.1 7 i)) rfl ?_
        refine lv_icmp_eq (tgt := 80) hx hb dX7_rollback_73 (by decide) (fun c_12 => ?_) (fun c_12 => ?_)
        · refine lv_iconst (v := 0) hx hb dX7_rollback_80 (by decide) ?_
          refine lv_istore (lv' := [(6, .int 0), (0, .ref M), (1, .int (nI j_to)), (2, .int o), (3, .int (nI (cntF (difF σ.2.1 j_to) i))), (4, .int (bI (anyF (barR σ.2.1 j_to o) i))), (5, .int (nI i))]) hx hb dX7_rollback_81 hl (by decide) rfl (fun ls hl => ?_)
          refine lv_iload_n hx hb dX7_rollback_83 rfl (lv_at hl 4 rfl) ?_
          refine lv_iload hx hb dX7_rollback_84 (lv_at hl 0 rfl) ?_
          refine lv_if_eq (tgt := 93) hx hb dX7_rollback_86 (by decide) (fun _ => ?_) (fun c_13 => absurd c_13 (by decide))
          refine lv_iconst (v := 0) hx hb dX7_rollback_93 (by decide) ?_
          refine xe_iadd hx hb (nI_add (cntF (difF σ.2.1 j_to) i) 0) dX7_rollback_94 ?_
          refine xe_top (show nI (cntF (difF σ.2.1 j_to) i + 0) = nI (cntF (difF σ.2.1 j_to) (i + 1)) from by rw [cntF_f (by simp [difF, c_12])]; rfl) ?_
          refine lv_istore_n (lv' := [(3, .int (nI (cntF (difF σ.2.1 j_to) (i + 1)))), (6, .int 0), (0, .ref M), (1, .int (nI j_to)), (2, .int o), (4, .int (bI (anyF (barR σ.2.1 j_to o) i))), (5, .int (nI i))]) hx hb dX7_rollback_95 rfl hl (by decide) rfl (fun ls hl => ?_)
          refine lv_iload hx hb dX7_rollback_96 (lv_at hl 5 rfl) ?_
          refine xb_ne (tgt := 126) hx hb dX7_rollback_98 (by decide) (fun c_14 => ?_) (fun c_14 => ?_)
          · refine lv_iconst (v := 1) hx hb dX7_rollback_126 (by decide) ?_
            refine lv_goto (tgt := 131) hx hb dX7_rollback_127 (by decide) ?_
            refine xe_top (show (1 : Int32) = bI (anyF (barR σ.2.1 j_to o) (i + 1)) from by simp [anyF, barR, difF, bI, c_1, c_2, c_5, n_5, Int32.not_le.mp c_5, c_12, c_14]) ?_
            refine lv_istore (lv' := [(4, .int (bI (anyF (barR σ.2.1 j_to o) (i + 1)))), (3, .int (nI (cntF (difF σ.2.1 j_to) (i + 1)))), (6, .int 0), (0, .ref M), (1, .int (nI j_to)), (2, .int o), (5, .int (nI i))]) hx hb dX7_rollback_131 hl (by decide) rfl (fun ls hl => ?_)
            refine lv_iinc (v := (nI (i + 1))) (lv' := [(5, .int (nI (i + 1))), (4, .int (bI (anyF (barR σ.2.1 j_to o) (i + 1)))), (3, .int (nI (cntF (difF σ.2.1 j_to) (i + 1)))), (6, .int 0), (0, .ref M), (1, .int (nI j_to)), (2, .int o)]) hx hb dX7_rollback_133 hl (k := 6) rfl (ni_inc i) (by decide) rfl (fun ls hl => ?_)
            refine lv_goto (tgt := 45) hx hb dX7_rollback_136 (by decide) ?_
            exact ih1 (i + 1) _ ⟨(by omega), lv_sub hl [4, 5, 6, 2, 1, 0] rfl⟩ (by omega)
          · refine lv_iload hx hb dX7_rollback_101 (lv_at hl 1 rfl) ?_
            refine lv_if_eq (tgt := 130) hx hb dX7_rollback_103 (by decide) (fun _ => ?_) (fun c_15 => absurd c_15 (by decide))
            refine lv_iconst (v := 0) hx hb dX7_rollback_130 (by decide) ?_
            refine xe_top (show (0 : Int32) = bI (anyF (barR σ.2.1 j_to o) (i + 1)) from by simp [anyF, barR, difF, bI, c_1, c_2, c_5, n_5, Int32.not_le.mp c_5, c_12, c_14]) ?_
            refine lv_istore (lv' := [(4, .int (bI (anyF (barR σ.2.1 j_to o) (i + 1)))), (3, .int (nI (cntF (difF σ.2.1 j_to) (i + 1)))), (6, .int 0), (0, .ref M), (1, .int (nI j_to)), (2, .int o), (5, .int (nI i))]) hx hb dX7_rollback_131 hl (by decide) rfl (fun ls hl => ?_)
            refine lv_iinc (v := (nI (i + 1))) (lv' := [(5, .int (nI (i + 1))), (4, .int (bI (anyF (barR σ.2.1 j_to o) (i + 1)))), (3, .int (nI (cntF (difF σ.2.1 j_to) (i + 1)))), (6, .int 0), (0, .ref M), (1, .int (nI j_to)), (2, .int o)]) hx hb dX7_rollback_133 hl (k := 6) rfl (ni_inc i) (by decide) rfl (fun ls hl => ?_)
            refine lv_goto (tgt := 45) hx hb dX7_rollback_136 (by decide) ?_
            exact ih1 (i + 1) _ ⟨(by omega), lv_sub hl [4, 5, 6, 2, 1, 0] rfl⟩ (by omega)
        · refine lv_iconst (v := 1) hx hb dX7_rollback_76 (by decide) ?_
          refine lv_goto (tgt := 81) hx hb dX7_rollback_77 (by decide) ?_
          refine lv_istore (lv' := [(6, .int 1), (0, .ref M), (1, .int (nI j_to)), (2, .int o), (3, .int (nI (cntF (difF σ.2.1 j_to) i))), (4, .int (bI (anyF (barR σ.2.1 j_to o) i))), (5, .int (nI i))]) hx hb dX7_rollback_81 hl (by decide) rfl (fun ls hl => ?_)
          refine lv_iload_n hx hb dX7_rollback_83 rfl (lv_at hl 4 rfl) ?_
          refine lv_iload hx hb dX7_rollback_84 (lv_at hl 0 rfl) ?_
          refine lv_if_eq (tgt := 93) hx hb dX7_rollback_86 (by decide) (fun c_16 => absurd c_16 (by decide)) (fun _ => ?_)
          refine lv_iconst (v := 1) hx hb dX7_rollback_89 (by decide) ?_
          refine lv_goto (tgt := 94) hx hb dX7_rollback_90 (by decide) ?_
          refine xe_iadd hx hb (nI_add (cntF (difF σ.2.1 j_to) i) 1) dX7_rollback_94 ?_
          refine xe_top (show nI (cntF (difF σ.2.1 j_to) i + 1) = nI (cntF (difF σ.2.1 j_to) (i + 1)) from by rw [cntF_t (by simp [difF, c_12])]) ?_
          refine lv_istore_n (lv' := [(3, .int (nI (cntF (difF σ.2.1 j_to) (i + 1)))), (6, .int 1), (0, .ref M), (1, .int (nI j_to)), (2, .int o), (4, .int (bI (anyF (barR σ.2.1 j_to o) i))), (5, .int (nI i))]) hx hb dX7_rollback_95 rfl hl (by decide) rfl (fun ls hl => ?_)
          refine lv_iload hx hb dX7_rollback_96 (lv_at hl 5 rfl) ?_
          refine xb_ne (tgt := 126) hx hb dX7_rollback_98 (by decide) (fun c_17 => ?_) (fun c_17 => ?_)
          · refine lv_iconst (v := 1) hx hb dX7_rollback_126 (by decide) ?_
            refine lv_goto (tgt := 131) hx hb dX7_rollback_127 (by decide) ?_
            refine xe_top (show (1 : Int32) = bI (anyF (barR σ.2.1 j_to o) (i + 1)) from by simp [anyF, barR, difF, bI, c_1, c_2, c_5, n_5, Int32.not_le.mp c_5, c_12, c_17]) ?_
            refine lv_istore (lv' := [(4, .int (bI (anyF (barR σ.2.1 j_to o) (i + 1)))), (3, .int (nI (cntF (difF σ.2.1 j_to) (i + 1)))), (6, .int 1), (0, .ref M), (1, .int (nI j_to)), (2, .int o), (5, .int (nI i))]) hx hb dX7_rollback_131 hl (by decide) rfl (fun ls hl => ?_)
            refine lv_iinc (v := (nI (i + 1))) (lv' := [(5, .int (nI (i + 1))), (4, .int (bI (anyF (barR σ.2.1 j_to o) (i + 1)))), (3, .int (nI (cntF (difF σ.2.1 j_to) (i + 1)))), (6, .int 1), (0, .ref M), (1, .int (nI j_to)), (2, .int o)]) hx hb dX7_rollback_133 hl (k := 6) rfl (ni_inc i) (by decide) rfl (fun ls hl => ?_)
            refine lv_goto (tgt := 45) hx hb dX7_rollback_136 (by decide) ?_
            exact ih1 (i + 1) _ ⟨(by omega), lv_sub hl [4, 5, 6, 2, 1, 0] rfl⟩ (by omega)
          · refine lv_iload hx hb dX7_rollback_101 (lv_at hl 1 rfl) ?_
            refine lv_if_eq (tgt := 130) hx hb dX7_rollback_103 (by decide) (fun c_18 => absurd c_18 (by decide)) (fun _ => ?_)
            refine lv_aload_n hx hb dX7_rollback_106 rfl (lv_at hl 2 rfl) ?_
            refine lv_iload hx hb dX7_rollback_107 (lv_at hl 6 rfl) ?_
            refine lv_iload_n hx hb dX7_rollback_109 rfl (lv_at hl 4 rfl) ?_
            refine xr_call (va_runV (As := [.int (nI i), .int o]) (rest := []) ⟨hx, hb, hml, hown, hts⟩ (c_X7_isLockedFor l D cA A M ad (sg σ 25 0) i o (by omega)) (cwV 2 hts gX7_rollback_X7_isLockedFor rfl rfl rfl (by decide +kernel) ⟨Nat.le_of_ble_eq_true rfl, Nat.le_of_ble_eq_true rfl⟩) (xPV hK hM.1 rfl hM) rfl rfl hl.1 rfl (lv_room (Nat.le_of_ble_eq_true rfl)) dX7_rollback_110 ⟨Nat.le_of_ble_eq_true rfl, Nat.le_of_ble_eq_true rfl⟩) ?_
            refine xb_ne (tgt := 126) hx hb dX7_rollback_113 (by decide) (fun c_19 => ?_) (fun c_19 => ?_)
            · have c_19 : (lckF (σ.2.1 11) i o) = true := c_19
              refine lv_iconst (v := 1) hx hb dX7_rollback_126 (by decide) ?_
              refine lv_goto (tgt := 131) hx hb dX7_rollback_127 (by decide) ?_
              refine xe_top (show (1 : Int32) = bI (anyF (barR σ.2.1 j_to o) (i + 1)) from by simp [anyF, barR, difF, bI, c_1, c_2, c_5, n_5, Int32.not_le.mp c_5, c_12, c_17, c_19]) ?_
              refine lv_istore (lv' := [(4, .int (bI (anyF (barR σ.2.1 j_to o) (i + 1)))), (3, .int (nI (cntF (difF σ.2.1 j_to) (i + 1)))), (6, .int 1), (0, .ref M), (1, .int (nI j_to)), (2, .int o), (5, .int (nI i))]) hx hb dX7_rollback_131 hl (by decide) rfl (fun ls hl => ?_)
              refine lv_iinc (v := (nI (i + 1))) (lv' := [(5, .int (nI (i + 1))), (4, .int (bI (anyF (barR σ.2.1 j_to o) (i + 1)))), (3, .int (nI (cntF (difF σ.2.1 j_to) (i + 1)))), (6, .int 1), (0, .ref M), (1, .int (nI j_to)), (2, .int o)]) hx hb dX7_rollback_133 hl (k := 6) rfl (ni_inc i) (by decide) rfl (fun ls hl => ?_)
              refine lv_goto (tgt := 45) hx hb dX7_rollback_136 (by decide) ?_
              exact ih1 (i + 1) _ ⟨(by omega), lv_sub hl [4, 5, 6, 2, 1, 0] rfl⟩ (by omega)
            · have c_19 : (lckF (σ.2.1 11) i o) = false := c_19
              refine lv_aload_n hx hb dX7_rollback_116 rfl (lv_at hl 2 rfl) ?_
              refine m_get (v := .ref (ad 10)) hx hb hts h7 hown hK hM 10 (by decide) (hts (.fieldLink RX7 34 "ConfigBeaconModel" "shares" "[I") (by decide +kernel)) rfl dX7_rollback_117 ?_
              refine lv_iload hx hb dX7_rollback_120 (lv_at hl 6 rfl) ?_
              refine m_ald hx hb hK hM 10 (by decide) (n := 128) rfl i rfl (by omega) (by decide) dX7_rollback_122 (v := (σ.2.1 10 i)) rfl ?_
              refine lv_if_lt (tgt := 130) hx hb dX7_rollback_123 (by decide) (fun c_20 => ?_) (fun c_20 => ?_)
              · refine lv_iconst (v := 0) hx hb dX7_rollback_130 (by decide) ?_
                refine xe_top (show (0 : Int32) = bI (anyF (barR σ.2.1 j_to o) (i + 1)) from by simp [anyF, barR, difF, bI, c_1, c_2, c_5, n_5, Int32.not_le.mp c_5, c_12, c_17, c_19, c_20, Int32.not_le.mpr c_20]) ?_
                refine lv_istore (lv' := [(4, .int (bI (anyF (barR σ.2.1 j_to o) (i + 1)))), (3, .int (nI (cntF (difF σ.2.1 j_to) (i + 1)))), (6, .int 1), (0, .ref M), (1, .int (nI j_to)), (2, .int o), (5, .int (nI i))]) hx hb dX7_rollback_131 hl (by decide) rfl (fun ls hl => ?_)
                refine lv_iinc (v := (nI (i + 1))) (lv' := [(5, .int (nI (i + 1))), (4, .int (bI (anyF (barR σ.2.1 j_to o) (i + 1)))), (3, .int (nI (cntF (difF σ.2.1 j_to) (i + 1)))), (6, .int 1), (0, .ref M), (1, .int (nI j_to)), (2, .int o)]) hx hb dX7_rollback_133 hl (k := 6) rfl (ni_inc i) (by decide) rfl (fun ls hl => ?_)
                refine lv_goto (tgt := 45) hx hb dX7_rollback_136 (by decide) ?_
                exact ih1 (i + 1) _ ⟨(by omega), lv_sub hl [4, 5, 6, 2, 1, 0] rfl⟩ (by omega)
              · refine lv_iconst (v := 1) hx hb dX7_rollback_126 (by decide) ?_
                refine lv_goto (tgt := 131) hx hb dX7_rollback_127 (by decide) ?_
                refine xe_top (show (1 : Int32) = bI (anyF (barR σ.2.1 j_to o) (i + 1)) from by simp [anyF, barR, difF, bI, c_1, c_2, c_5, n_5, Int32.not_le.mp c_5, c_12, c_17, c_19, c_20, Int32.not_lt.mp c_20]) ?_
                refine lv_istore (lv' := [(4, .int (bI (anyF (barR σ.2.1 j_to o) (i + 1)))), (3, .int (nI (cntF (difF σ.2.1 j_to) (i + 1)))), (6, .int 1), (0, .ref M), (1, .int (nI j_to)), (2, .int o), (5, .int (nI i))]) hx hb dX7_rollback_131 hl (by decide) rfl (fun ls hl => ?_)
                refine lv_iinc (v := (nI (i + 1))) (lv' := [(5, .int (nI (i + 1))), (4, .int (bI (anyF (barR σ.2.1 j_to o) (i + 1)))), (3, .int (nI (cntF (difF σ.2.1 j_to) (i + 1)))), (6, .int 1), (0, .ref M), (1, .int (nI j_to)), (2, .int o)]) hx hb dX7_rollback_133 hl (k := 6) rfl (ni_inc i) (by decide) rfl (fun ls hl => ?_)
                refine lv_goto (tgt := 45) hx hb dX7_rollback_136 (by decide) ?_
                exact ih1 (i + 1) _ ⟨(by omega), lv_sub hl [4, 5, 6, 2, 1, 0] rfl⟩ (by omega)
  · have c_1 : okN (nV + 1) to9 = false := (inB_okN2 (by omega) to9).symm.trans c_1
    refine lv_iconst (v := 1) hx hb dX7_rollback_13 (by decide) ?_
    refine lv_goto (tgt := 29) hx hb dX7_rollback_14 (by decide) ?_
    refine xw_calls (va_runV (As := [.int 1]) (rest := []) ⟨hx, hb, hml, hown, hts⟩ (c_X7_goes l D cA A M ad σ 1) (cwV 1 hts gX7_rollback_X7_goes rfl rfl rfl (by decide +kernel) ⟨Nat.le_of_ble_eq_true rfl, Nat.le_of_ble_eq_true rfl⟩) (xPV hK hM.1 rfl hM) rfl rfl hl.1 rfl (lv_room (Nat.le_of_ble_eq_true rfl)) dX7_rollback_29 ⟨Nat.le_of_ble_eq_true rfl, Nat.le_of_ble_eq_true rfl⟩) hS (fun _ _ h => h) (fun _ h => h) (fun H locs hM _ _ hS => ?_)
    refine xb_ne (tgt := 37) hx hb dX7_rollback_32 (by decide) (fun c_21 => absurd c_21 (by decide)) (fun _ => ?_)
    refine lv_iconst (v := 0) hx hb dX7_rollback_35 (by decide) ?_
    exact xw_iret hx hb hr hlocks hS (mJ_no (w := 1) hM (by simp [kRo, c_1]) (by decide) rfl (PE.rf.sg 25 _ (by decide))) (Nat.le_refl _) (Nat.le_refl _) dX7_rollback_36
