set_option maxHeartbeats 4000000 in
set_option maxRecDepth 100000 in
theorem c_X7_advance (l : Launch) (D : va_G) (cA : Nat → ClassId) (A : Nat → Prop) (M : Nat) (ad : Nat → Nat) (σ : MS) (p1 : Int32) (p2 : Int32) (v : Int32) (o : Int32) (nL : Nat) (hL : σ.1 6 = nI nL) (hL2 : nL ≤ 8) (nV : Nat) (hV : σ.1 13 = nI nV) (hV2 : nV < 512) (nC : Nat) (hC : σ.1 2 = nI nC) (hC2 : nC ≤ 12) : Met l yX7_advance wsX7_advance (rmK 4 0 0) (xP D cA [.ref M, .int p1, .int p2, .int v, .int o] (MR D cA A M ad σ)) (xW (mJ D cA A M ad σ (kAd σ nL p1 p2 v o) (fun r τ => r = some (.int (nI (adV σ nC (ix p1) (cl p1 p2) v))) ∧ PE τ (adS σ nV (cl p1 p2) v))) A) 0 0 A := by
  refine Met.ofW (cc := cX7_advance) (maxL := 9) (ret := (some .int)) (by decide) rfl ?_
  intro p e s m args below meth c s₁ B hml hv
  obtain ⟨rfl, hK, hI⟩ := hv
  have hx := B.exec
  have hb := B.bytes
  have hr := B.returns
  have hts := atoms_spec (ws := wsX7_advance) B.pre
  have hown : s.vm.findClass RX7 = some m.cls := findClass_of_methodNamed B.named
  have hlocks := B.notSynchronized
  have hl := lv_entry ([.ref M, .int p1, .int p2, .int v, .int o]) (n := 9) (Nat.le_of_ble_eq_true rfl)
  rw [lg_entry_eq]
  generalize (lg_sl ([.ref M, .int p1, .int p2, .int v, .int o]) ++ List.replicate (9 - (lg_sl ([.ref M, .int p1, .int p2, .int v, .int o])).length) Slot.unset).toArray = ls at hl ⊢
  have hl : lv_has ls 9 [(0, .ref M), (1, .int p1), (2, .int p2), (3, .int v), (4, .int o)] := hl
  have hM : MR D cA A M ad σ s.heap := hI
  have h7 : ∀ w ∈ wsX70, w ∈ wsX7_advance := fun _ h => List.mem_cons_of_mem _ (List.mem_append_right _ h)
  have hS : va_S A s.heap s.heap [] := va_S.rf
  refine lv_aload_n hx hb dX7_advance_0 rfl (lv_at hl 0 rfl) ?_
  refine lv_aload_n hx hb dX7_advance_1 rfl (lv_at hl 0 rfl) ?_
  refine lv_iload_n hx hb dX7_advance_2 rfl (lv_at hl 1 rfl) ?_
  refine lv_iload_n hx hb dX7_advance_3 rfl (lv_at hl 2 rfl) ?_
  refine lv_iload_n hx hb dX7_advance_4 rfl (lv_at hl 3 rfl) ?_
  refine lv_iconst (v := 1) hx hb dX7_advance_5 (by decide) ?_
  refine lv_bipush (v := 100) hx hb dX7_advance_6 (by decide) ?_
  refine xr_call (va_runS (As := [.int v, .int 1, .int 100]) (rest := [.int p2, .int p1, .ref M, .ref M]) ⟨hx, hb, hml, hown, hts⟩ (c_X7_isIn l D cA v 1 100) (va_cwS 3 hts gX7_advance_X7_isIn rfl rfl rfl (by decide +kernel) ⟨Nat.le_of_ble_eq_true rfl, Nat.le_of_ble_eq_true rfl⟩) (xPS hK trivial) rfl rfl hl.1 rfl (lv_room (Nat.le_of_ble_eq_true rfl)) dX7_advance_8 ⟨Nat.le_of_ble_eq_true rfl, Nat.le_of_ble_eq_true rfl⟩) ?_
  refine lv_iload hx hb dX7_advance_11 (lv_at hl 4 rfl) ?_
  refine lv_iconst (v := 1) hx hb dX7_advance_13 (by decide) ?_
  refine xr_call (va_runV (As := [.int p1, .int p2, .int (bI (inB v 1 100)), .int o, .int 1]) (rest := [.ref M]) ⟨hx, hb, hml, hown, hts⟩ (c_X7_wrong l D cA A M ad σ p1 p2 (inB v 1 100) o true nL hL hL2) (cwV 5 hts gX7_advance_X7_wrong rfl rfl rfl (by decide +kernel) ⟨Nat.le_of_ble_eq_true rfl, Nat.le_of_ble_eq_true rfl⟩) (xPV hK hM.1 rfl hM) rfl rfl hl.1 rfl (lv_room (Nat.le_of_ble_eq_true rfl)) dX7_advance_14 ⟨Nat.le_of_ble_eq_true rfl, Nat.le_of_ble_eq_true rfl⟩) ?_
  refine xw_calls (va_runV (As := [.int (wrF σ nL p1 p2 (inB v 1 100) o true)]) (rest := []) ⟨hx, hb, hml, hown, hts⟩ (c_X7_goes l D cA A M ad σ (wrF σ nL p1 p2 (inB v 1 100) o true)) (cwV 1 hts gX7_advance_X7_goes rfl rfl rfl (by decide +kernel) ⟨Nat.le_of_ble_eq_true rfl, Nat.le_of_ble_eq_true rfl⟩) (xPV hK hM.1 rfl hM) rfl rfl hl.1 rfl (lv_room (Nat.le_of_ble_eq_true rfl)) dX7_advance_17 ⟨Nat.le_of_ble_eq_true rfl, Nat.le_of_ble_eq_true rfl⟩) hS (fun _ _ h => h) (fun _ h => h) (fun H locs hM _ _ hS => ?_)
  refine xb_ne (tgt := 25) hx hb dX7_advance_20 (by decide) (fun c_1 => ?_) (fun c_1 => ?_)
  · have z_c_1 := gz_t c_1
    obtain ⟨y1_c_1, y2_c_1, y3_c_1, y4_c_1⟩ := wrF_0 z_c_1
    obtain ⟨j_p1, hj_p1, rfl⟩ := okN_of (by omega) y1_c_1
    obtain ⟨j_p2, hj_p2, rfl⟩ := okS_of y2_c_1
    have ecl : cl (nI j_p1) (nI j_p2) = 16 * j_p1 + j_p2 := cl_nI (by omega) hj_p2
    refine lv_iload_n hx hb dX7_advance_25 rfl (lv_at hl 1 rfl) ?_
    refine lv_iload_n hx hb dX7_advance_26 rfl (lv_at hl 2 rfl) ?_
    refine xr_call (va_runS (As := [.int (nI j_p1), .int (nI j_p2)]) (rest := []) ⟨hx, hb, hml, hown, hts⟩ (c_X7_cell l D cA j_p1 j_p2) (va_cwS 2 hts gX7_advance_X7_cell rfl rfl rfl (by decide +kernel) ⟨Nat.le_of_ble_eq_true rfl, Nat.le_of_ble_eq_true rfl⟩) (xPS hK trivial) rfl rfl hl.1 rfl (lv_room (Nat.le_of_ble_eq_true rfl)) dX7_advance_27 ⟨Nat.le_of_ble_eq_true rfl, Nat.le_of_ble_eq_true rfl⟩) ?_
    refine lv_istore (lv' := [(5, .int (nI (16 * j_p1 + j_p2))), (0, .ref M), (1, .int (nI j_p1)), (2, .int (nI j_p2)), (3, .int v), (4, .int o)]) hx hb dX7_advance_30 hl (by decide) rfl (fun ls hl => ?_)
    refine lv_aload_n hx hb dX7_advance_32 rfl (lv_at hl 1 rfl) ?_
    refine lv_iload_n hx hb dX7_advance_33 rfl (lv_at hl 4 rfl) ?_
    refine lv_aload_n hx hb dX7_advance_34 rfl (lv_at hl 1 rfl) ?_
    refine m_get (v := .ref (ad 10)) hx hb hts h7 hown hK hM 10 (by decide) (hts (.fieldLink RX7 34 "ConfigBeaconModel" "shares" "[I") (by decide +kernel)) rfl dX7_advance_35 ?_
    refine lv_iload hx hb dX7_advance_38 (lv_at hl 0 rfl) ?_
    refine m_ald hx hb hK hM 10 (by decide) (n := 128) rfl (16 * j_p1 + j_p2) rfl (by omega) (by decide) dX7_advance_40 (v := (σ.2.1 10 (16 * j_p1 + j_p2))) rfl ?_
    refine lv_icmp_le (tgt := 48) hx hb dX7_advance_41 (by decide) (fun c_2 => ?_) (fun c_2 => ?_)
    · refine lv_iconst (v := 3) hx hb dX7_advance_48 (by decide) ?_
      refine xw_calls (va_runV (As := [.int 3]) (rest := []) ⟨hx, hb, hml, hown, hts⟩ (c_X7_goes l D cA A M ad (sg σ 25 (wrF σ nL (nI j_p1) (nI j_p2) (inB v 1 100) o true)) 3) (cwV 1 hts gX7_advance_X7_goes rfl rfl rfl (by decide +kernel) ⟨Nat.le_of_ble_eq_true rfl, Nat.le_of_ble_eq_true rfl⟩) (xPV hK hM.1 rfl hM) rfl rfl hl.1 rfl (lv_room (Nat.le_of_ble_eq_true rfl)) dX7_advance_49 ⟨Nat.le_of_ble_eq_true rfl, Nat.le_of_ble_eq_true rfl⟩) hS (fun _ _ h => h) (fun _ h => h) (fun H locs hM _ _ hS => ?_)
      refine xb_ne (tgt := 57) hx hb dX7_advance_52 (by decide) (fun c_3 => absurd c_3 (by decide)) (fun _ => ?_)
      refine lv_iconst (v := 0) hx hb dX7_advance_55 (by decide) ?_
      exact xw_iret hx hb hr hlocks hS (mJ_no (w := 3) hM (by rw [kAd, if_pos z_c_1, ecl]; simp [c_2]) (by decide) rfl ((PE.rf.sg 25 _ (by decide)).sg 25 _ (by decide))) (Nat.le_refl _) (Nat.le_refl _) dX7_advance_56
    · refine lv_iconst (v := 0) hx hb dX7_advance_44 (by decide) ?_
      refine lv_goto (tgt := 49) hx hb dX7_advance_45 (by decide) ?_
      refine xw_calls (va_runV (As := [.int 0]) (rest := []) ⟨hx, hb, hml, hown, hts⟩ (c_X7_goes l D cA A M ad (sg σ 25 (wrF σ nL (nI j_p1) (nI j_p2) (inB v 1 100) o true)) 0) (cwV 1 hts gX7_advance_X7_goes rfl rfl rfl (by decide +kernel) ⟨Nat.le_of_ble_eq_true rfl, Nat.le_of_ble_eq_true rfl⟩) (xPV hK hM.1 rfl hM) rfl rfl hl.1 rfl (lv_room (Nat.le_of_ble_eq_true rfl)) dX7_advance_49 ⟨Nat.le_of_ble_eq_true rfl, Nat.le_of_ble_eq_true rfl⟩) hS (fun _ _ h => h) (fun _ h => h) (fun H locs hM _ _ hS => ?_)
      refine xb_ne (tgt := 57) hx hb dX7_advance_52 (by decide) (fun _ => ?_) (fun c_4 => absurd c_4 (by decide))
      refine lv_aload_n hx hb dX7_advance_57 rfl (lv_at hl 1 rfl) ?_
      refine m_get (v := .ref (ad 10)) hx hb hts h7 hown hK hM 10 (by decide) (hts (.fieldLink RX7 34 "ConfigBeaconModel" "shares" "[I") (by decide +kernel)) rfl dX7_advance_58 ?_
      refine lv_iload hx hb dX7_advance_61 (lv_at hl 0 rfl) ?_
      refine lv_iload_n hx hb dX7_advance_63 rfl (lv_at hl 4 rfl) ?_
      refine lv_bipush (v := 100) hx hb dX7_advance_64 (by decide) ?_
      refine lv_icmp_ge (tgt := 73) hx hb dX7_advance_66 (by decide) (fun c_5 => ?_) (fun c_5 => ?_)
      · refine lv_iconst (v := (-1)) hx hb dX7_advance_73 (by decide) ?_
        refine m_ast hx hb hK hM hS 10 (by decide) (n := 128) rfl (16 * j_p1 + j_p2) rfl (by omega) (by decide) dX7_advance_74 (fun H locs hM hS => ?_)
        refine lv_iload_n hx hb dX7_advance_75 rfl (lv_at hl 4 rfl) ?_
        refine lv_bipush (v := 100) hx hb dX7_advance_76 (by decide) ?_
        refine lv_icmp_ge (tgt := 85) hx hb dX7_advance_78 (by decide) (fun _ => ?_) (fun c_6 => absurd c_5 c_6)
        refine lv_aload_n hx hb dX7_advance_85 rfl (lv_at hl 1 rfl) ?_
        refine lv_iload hx hb dX7_advance_86 (lv_at hl 0 rfl) ?_
        refine lv_aload_n hx hb dX7_advance_88 rfl (lv_at hl 1 rfl) ?_
        refine m_get (v := .ref (ad 9)) hx hb hts h7 hown hK hM 9 (by decide) (hts (.fieldLink RX7 31 "ConfigBeaconModel" "rolled" "[I") (by decide +kernel)) rfl dX7_advance_89 ?_
        refine lv_iload hx hb dX7_advance_92 (lv_at hl 0 rfl) ?_
        refine m_ald hx hb hK hM 9 (by decide) (n := 128) rfl (16 * j_p1 + j_p2) rfl (by omega) (by decide) dX7_advance_94 (v := (σ.2.1 9 (16 * j_p1 + j_p2))) rfl ?_
        refine xw_calls (va_runV (As := [.int (nI (16 * j_p1 + j_p2)), .int (σ.2.1 9 (16 * j_p1 + j_p2))]) (rest := []) ⟨hx, hb, hml, hown, hts⟩ (c_X7_puts l D cA A M ad (sa (sg (sg σ 25 (wrF σ nL (nI j_p1) (nI j_p2) (inB v 1 100) o true)) 25 0) 10 (16 * j_p1 + j_p2) (-1)) (16 * j_p1 + j_p2) (σ.2.1 9 (16 * j_p1 + j_p2)) (by omega) nV hV hV2) (cwV 2 hts gX7_advance_X7_puts rfl rfl rfl (by decide +kernel) ⟨Nat.le_of_ble_eq_true rfl, Nat.le_of_ble_eq_true rfl⟩) (xPV hK hM.1 rfl hM) rfl rfl hl.1 rfl (lv_room (Nat.le_of_ble_eq_true rfl)) dX7_advance_95 ⟨Nat.le_of_ble_eq_true rfl, Nat.le_of_ble_eq_true rfl⟩) hS (fun _ _ h => h) (fun _ h => h) (fun H locs hM _ _ hS => ?_)
        obtain ⟨σ1, hM, q1, q2⟩ : ∃ σ1 : MS, MR D cA A M ad σ1 H ∧ PE σ1 (adS σ nV (16 * j_p1 + j_p2) v) ∧ σ1.1 25 = 0 := ⟨_, hM, by unfold adS; rw [if_neg (Int32.not_lt.mpr c_5)]; exact PE_put (PE_sa ((PE.rf.sg 25 _ (by decide)).sg 25 _ (by decide)) 10 _ _) _ _ _, ((putS_25 _ _ _ _).trans rfl)⟩
        have hC1 : σ1.1 2 = nI nC := (q1.1 2 (by decide)).trans ((adS_sc _ _ _ _ 2 (by decide)).trans hC)
        have hf1 : ∀ a9 c9 : Nat, forF σ1.2.1 a9 c9 = forF σ.2.1 a9 c9 := fun a9 c9 => forF_cong ((q1.2 0 (by decide)).trans (adS_ne _ _ _ _ 0 (by decide))) ((q1.2 1 (by decide)).trans (adS_ne _ _ _ _ 1 (by decide))) ((q1.2 4 (by decide)).trans (adS_ne _ _ _ _ 4 (by decide))) ((q1.2 5 (by decide)).trans (adS_ne _ _ _ _ 5 (by decide))) a9 c9
        refine lv_istore (lv' := [(6, .int (nI (putV (sa (sg (sg σ 25 (wrF σ nL (nI j_p1) (nI j_p2) (inB v 1 100) o true)) 25 0) 10 (16 * j_p1 + j_p2) (-1)) nV (16 * j_p1 + j_p2) (σ.2.1 9 (16 * j_p1 + j_p2))))), (5, .int (nI (16 * j_p1 + j_p2))), (0, .ref M), (1, .int (nI j_p1)), (2, .int (nI j_p2)), (3, .int v), (4, .int o)]) hx hb dX7_advance_98 hl (by decide) rfl (fun ls hl => ?_)
        refine lv_iconst (v := 0) hx hb dX7_advance_100 (by decide) ?_
        refine lv_istore (lv' := [(7, .int 0), (6, .int (nI (putV (sa (sg (sg σ 25 (wrF σ nL (nI j_p1) (nI j_p2) (inB v 1 100) o true)) 25 0) 10 (16 * j_p1 + j_p2) (-1)) nV (16 * j_p1 + j_p2) (σ.2.1 9 (16 * j_p1 + j_p2))))), (5, .int (nI (16 * j_p1 + j_p2))), (0, .ref M), (1, .int (nI j_p1)), (2, .int (nI j_p2)), (3, .int v), (4, .int o)]) hx hb dX7_advance_101 hl (by decide) rfl (fun ls hl => ?_)
        refine lv_iconst (v := 0) hx hb dX7_advance_103 (by decide) ?_
        refine lv_istore (lv' := [(8, .int 0), (7, .int 0), (6, .int (nI (putV (sa (sg (sg σ 25 (wrF σ nL (nI j_p1) (nI j_p2) (inB v 1 100) o true)) 25 0) 10 (16 * j_p1 + j_p2) (-1)) nV (16 * j_p1 + j_p2) (σ.2.1 9 (16 * j_p1 + j_p2))))), (5, .int (nI (16 * j_p1 + j_p2))), (0, .ref M), (1, .int (nI j_p1)), (2, .int (nI j_p2)), (3, .int v), (4, .int o)]) hx hb dX7_advance_104 hl (by decide) rfl (fun ls hl => ?_)
        refine w_loopR (fun (i : Nat) ls => i ≤ nC ∧ lv_has ls 9 [(0, .ref M), (1, .int (nI j_p1)), (2, .int (nI j_p2)), (3, .int v), (4, .int o), (5, .int (nI (16 * j_p1 + j_p2))), (7, .int (nI (cntF (fun c => forF σ.2.1 j_p1 c && decide (nI (bk c ((16 * j_p1 + j_p2) / 16) ((16 * j_p1 + j_p2) % 16)) < v)) i))), (8, .int (nI i))]) (fun (i : Nat) => nC - i) ?_ 0 ⟨Nat.zero_le _, lv_sub hl [4, 5, 6, 7, 8, 3, 1, 0] rfl⟩
        intro i ls h9 ih
        obtain ⟨hi, hl⟩ := h9
        refine lv_iload hx hb dX7_advance_106 (lv_at hl 7 rfl) ?_
        refine lv_aload_n hx hb dX7_advance_108 rfl (lv_at hl 0 rfl) ?_
        refine m_get (v := .int (nI nC)) hx hb hts h7 hown hK hM 2 (by decide) (hts (.fieldLink RX7 64 "ConfigBeaconModel" "clients" "I") (by decide +kernel)) (by show some (Value.int (σ1.1 2)) = _; rw [hC1]) dX7_advance_109 ?_
        refine lv_icmp_ge (tgt := 152) hx hb dX7_advance_112 (by decide) (fun c_7 => ?_) (fun c_7 => ?_)
        · have n_7 : nC ≤ i := (nI_leI (a := nC) (b := i) (by omega) (by omega)).mp c_7
          refine lv_iload hx hb dX7_advance_152 (lv_at hl 6 rfl) ?_
          exact xw_iret hx hb hr hlocks hS (mJ_ok hM (by rw [kAd, if_pos z_c_1, ecl, if_pos (Int32.not_le.mp c_2)]) q2 (by rw [ecl, ix_nI (j := j_p1) (by omega), show nC = i by omega]; exact ⟨rfl, q1⟩)) (Nat.le_refl _) (Nat.le_refl _) dX7_advance_154
        · have n_7 : i < nC := Nat.not_le.mp (fun q => c_7 ((nI_leI (a := nC) (b := i) (by omega) (by omega)).mpr q))
          refine lv_iload hx hb dX7_advance_115 (lv_at hl 6 rfl) ?_
          refine lv_aload_n hx hb dX7_advance_117 rfl (lv_at hl 0 rfl) ?_
          refine lv_iload_n hx hb dX7_advance_118 rfl (lv_at hl 1 rfl) ?_
          refine lv_iload hx hb dX7_advance_119 (lv_at hl 7 rfl) ?_
          refine xr_call (va_runV (As := [.int (nI j_p1), .int (nI i)]) (rest := [.int (nI (cntF (fun c => forF σ.2.1 j_p1 c && decide (nI (bk c ((16 * j_p1 + j_p2) / 16) ((16 * j_p1 + j_p2) % 16)) < v)) i))]) ⟨hx, hb, hml, hown, hts⟩ (c_X7_isFor l D cA A M ad σ1 j_p1 i (by omega) (by omega)) (cwV 2 hts gX7_advance_X7_isFor rfl rfl rfl (by decide +kernel) ⟨Nat.le_of_ble_eq_true rfl, Nat.le_of_ble_eq_true rfl⟩) (xPV hK hM.1 rfl hM) rfl rfl hl.1 rfl (lv_room (Nat.le_of_ble_eq_true rfl)) dX7_advance_121 ⟨Nat.le_of_ble_eq_true rfl, Nat.le_of_ble_eq_true rfl⟩) ?_
          refine xb_eq (tgt := 142) hx hb dX7_advance_124 (by decide) (fun c_8 => ?_) (fun c_8 => ?_)
          · rw [hf1] at c_8
            refine lv_iconst (v := 0) hx hb dX7_advance_142 (by decide) ?_
            refine xe_iadd hx hb (nI_add (cntF (fun c => forF σ.2.1 j_p1 c && decide (nI (bk c ((16 * j_p1 + j_p2) / 16) ((16 * j_p1 + j_p2) % 16)) < v)) i) 0) dX7_advance_143 ?_
            refine xe_top (show nI (cntF (fun c => forF σ.2.1 j_p1 c && decide (nI (bk c ((16 * j_p1 + j_p2) / 16) ((16 * j_p1 + j_p2) % 16)) < v)) i + 0) = nI (cntF (fun c => forF σ.2.1 j_p1 c && decide (nI (bk c ((16 * j_p1 + j_p2) / 16) ((16 * j_p1 + j_p2) % 16)) < v)) (i + 1)) from by rw [cntF_f (by simp only [Bool.true_and, Bool.false_and, Bool.and_true, Bool.and_false, decide_eq_true_eq, decide_eq_false_iff_not, not_false_eq_true, not_true_eq_false, Bool.or_true, Bool.true_or, Bool.or_false, Bool.false_or, c_5, Int32.not_lt.mpr c_5, c_7, n_7, Int32.not_le.mp c_7, c_8])]; rfl) ?_
            refine lv_istore (lv' := [(7, .int (nI (cntF (fun c => forF σ.2.1 j_p1 c && decide (nI (bk c ((16 * j_p1 + j_p2) / 16) ((16 * j_p1 + j_p2) % 16)) < v)) (i + 1)))), (0, .ref M), (1, .int (nI j_p1)), (2, .int (nI j_p2)), (3, .int v), (4, .int o), (5, .int (nI (16 * j_p1 + j_p2))), (8, .int (nI i))]) hx hb dX7_advance_144 hl (by decide) rfl (fun ls hl => ?_)
            refine lv_iinc (v := (nI (i + 1))) (lv' := [(8, .int (nI (i + 1))), (7, .int (nI (cntF (fun c => forF σ.2.1 j_p1 c && decide (nI (bk c ((16 * j_p1 + j_p2) / 16) ((16 * j_p1 + j_p2) % 16)) < v)) (i + 1)))), (0, .ref M), (1, .int (nI j_p1)), (2, .int (nI j_p2)), (3, .int v), (4, .int o), (5, .int (nI (16 * j_p1 + j_p2)))]) hx hb dX7_advance_146 hl (k := 7) rfl (ni_inc i) (by decide) rfl (fun ls hl => ?_)
            refine lv_goto (tgt := 106) hx hb dX7_advance_149 (by decide) ?_
            exact ih (i + 1) _ ⟨(by omega), lv_sub hl [2, 3, 4, 5, 6, 7, 1, 0] rfl⟩ (by omega)
          · rw [hf1] at c_8
            refine lv_iload hx hb dX7_advance_127 (lv_at hl 7 rfl) ?_
            refine lv_iload hx hb dX7_advance_129 (lv_at hl 5 rfl) ?_
            refine xr_call (va_runS (As := [.int (nI i), .int (nI (16 * j_p1 + j_p2))]) (rest := [.int (nI (cntF (fun c => forF σ.2.1 j_p1 c && decide (nI (bk c ((16 * j_p1 + j_p2) / 16) ((16 * j_p1 + j_p2) % 16)) < v)) i))]) ⟨hx, hb, hml, hown, hts⟩ (c_X7_bucket l D cA i (16 * j_p1 + j_p2) (by omega) (by omega)) (va_cwS 2 hts gX7_advance_X7_bucket rfl rfl rfl (by decide +kernel) ⟨Nat.le_of_ble_eq_true rfl, Nat.le_of_ble_eq_true rfl⟩) (xPS hK trivial) rfl rfl hl.1 rfl (lv_room (Nat.le_of_ble_eq_true rfl)) dX7_advance_131 ⟨Nat.le_of_ble_eq_true rfl, Nat.le_of_ble_eq_true rfl⟩) ?_
            refine lv_iload_n hx hb dX7_advance_134 rfl (lv_at hl 3 rfl) ?_
            refine lv_icmp_ge (tgt := 142) hx hb dX7_advance_135 (by decide) (fun c_9 => ?_) (fun c_9 => ?_)
            · refine lv_iconst (v := 0) hx hb dX7_advance_142 (by decide) ?_
              refine xe_iadd hx hb (nI_add (cntF (fun c => forF σ.2.1 j_p1 c && decide (nI (bk c ((16 * j_p1 + j_p2) / 16) ((16 * j_p1 + j_p2) % 16)) < v)) i) 0) dX7_advance_143 ?_
              refine xe_top (show nI (cntF (fun c => forF σ.2.1 j_p1 c && decide (nI (bk c ((16 * j_p1 + j_p2) / 16) ((16 * j_p1 + j_p2) % 16)) < v)) i + 0) = nI (cntF (fun c => forF σ.2.1 j_p1 c && decide (nI (bk c ((16 * j_p1 + j_p2) / 16) ((16 * j_p1 + j_p2) % 16)) < v)) (i + 1)) from by rw [cntF_f (by simp only [Bool.true_and, Bool.false_and, Bool.and_true, Bool.and_false, decide_eq_true_eq, decide_eq_false_iff_not, not_false_eq_true, not_true_eq_false, Bool.or_true, Bool.true_or, Bool.or_false, Bool.false_or, c_7, n_7, Int32.not_le.mp c_7, c_8, c_9, Int32.not_lt.mpr c_9])]; rfl) ?_
              refine lv_istore (lv' := [(7, .int (nI (cntF (fun c => forF σ.2.1 j_p1 c && decide (nI (bk c ((16 * j_p1 + j_p2) / 16) ((16 * j_p1 + j_p2) % 16)) < v)) (i + 1)))), (0, .ref M), (1, .int (nI j_p1)), (2, .int (nI j_p2)), (3, .int v), (4, .int o), (5, .int (nI (16 * j_p1 + j_p2))), (8, .int (nI i))]) hx hb dX7_advance_144 hl (by decide) rfl (fun ls hl => ?_)
              refine lv_iinc (v := (nI (i + 1))) (lv' := [(8, .int (nI (i + 1))), (7, .int (nI (cntF (fun c => forF σ.2.1 j_p1 c && decide (nI (bk c ((16 * j_p1 + j_p2) / 16) ((16 * j_p1 + j_p2) % 16)) < v)) (i + 1)))), (0, .ref M), (1, .int (nI j_p1)), (2, .int (nI j_p2)), (3, .int v), (4, .int o), (5, .int (nI (16 * j_p1 + j_p2)))]) hx hb dX7_advance_146 hl (k := 7) rfl (ni_inc i) (by decide) rfl (fun ls hl => ?_)
              refine lv_goto (tgt := 106) hx hb dX7_advance_149 (by decide) ?_
              exact ih (i + 1) _ ⟨(by omega), lv_sub hl [2, 3, 4, 5, 6, 7, 1, 0] rfl⟩ (by omega)
            · refine lv_iconst (v := 1) hx hb dX7_advance_138 (by decide) ?_
              refine lv_goto (tgt := 143) hx hb dX7_advance_139 (by decide) ?_
              refine xe_iadd hx hb (nI_add (cntF (fun c => forF σ.2.1 j_p1 c && decide (nI (bk c ((16 * j_p1 + j_p2) / 16) ((16 * j_p1 + j_p2) % 16)) < v)) i) 1) dX7_advance_143 ?_
              refine xe_top (show nI (cntF (fun c => forF σ.2.1 j_p1 c && decide (nI (bk c ((16 * j_p1 + j_p2) / 16) ((16 * j_p1 + j_p2) % 16)) < v)) i + 1) = nI (cntF (fun c => forF σ.2.1 j_p1 c && decide (nI (bk c ((16 * j_p1 + j_p2) / 16) ((16 * j_p1 + j_p2) % 16)) < v)) (i + 1)) from by rw [cntF_t (by simp only [Bool.true_and, Bool.false_and, Bool.and_true, Bool.and_false, decide_eq_true_eq, decide_eq_false_iff_not, not_false_eq_true, not_true_eq_false, Bool.or_true, Bool.true_or, Bool.or_false, Bool.false_or, c_7, n_7, Int32.not_le.mp c_7, c_8, c_9, Int32.not_le.mp c_9])]) ?_
              refine lv_istore (lv' := [(7, .int (nI (cntF (fun c => forF σ.2.1 j_p1 c && decide (nI (bk c ((16 * j_p1 + j_p2) / 16) ((16 * j_p1 + j_p2) % 16)) < v)) (i + 1)))), (0, .ref M), (1, .int (nI j_p1)), (2, .int (nI j_p2)), (3, .int v), (4, .int o), (5, .int (nI (16 * j_p1 + j_p2))), (8, .int (nI i))]) hx hb dX7_advance_144 hl (by decide) rfl (fun ls hl => ?_)
              refine lv_iinc (v := (nI (i + 1))) (lv' := [(8, .int (nI (i + 1))), (7, .int (nI (cntF (fun c => forF σ.2.1 j_p1 c && decide (nI (bk c ((16 * j_p1 + j_p2) / 16) ((16 * j_p1 + j_p2) % 16)) < v)) (i + 1)))), (0, .ref M), (1, .int (nI j_p1)), (2, .int (nI j_p2)), (3, .int v), (4, .int o), (5, .int (nI (16 * j_p1 + j_p2)))]) hx hb dX7_advance_146 hl (k := 7) rfl (ni_inc i) (by decide) rfl (fun ls hl => ?_)
              refine lv_goto (tgt := 106) hx hb dX7_advance_149 (by decide) ?_
              exact ih (i + 1) _ ⟨(by omega), lv_sub hl [2, 3, 4, 5, 6, 7, 1, 0] rfl⟩ (by omega)
      · refine lv_iload_n hx hb dX7_advance_69 rfl (lv_at hl 4 rfl) ?_
        refine lv_goto (tgt := 74) hx hb dX7_advance_70 (by decide) ?_
        refine m_ast hx hb hK hM hS 10 (by decide) (n := 128) rfl (16 * j_p1 + j_p2) rfl (by omega) (by decide) dX7_advance_74 (fun H locs hM hS => ?_)
        refine lv_iload_n hx hb dX7_advance_75 rfl (lv_at hl 4 rfl) ?_
        refine lv_bipush (v := 100) hx hb dX7_advance_76 (by decide) ?_
        refine lv_icmp_ge (tgt := 85) hx hb dX7_advance_78 (by decide) (fun c_10 => absurd c_10 c_5) (fun _ => ?_)
        refine lv_iconst (v := 0) hx hb dX7_advance_81 (by decide) ?_
        refine lv_goto (tgt := 98) hx hb dX7_advance_82 (by decide) ?_
        obtain ⟨σ1, hM, q1, q2⟩ : ∃ σ1 : MS, MR D cA A M ad σ1 H ∧ PE σ1 (adS σ nV (16 * j_p1 + j_p2) v) ∧ σ1.1 25 = 0 := ⟨_, hM, by unfold adS; rw [if_pos (Int32.not_le.mp c_5)]; exact PE_sa ((PE.rf.sg 25 _ (by decide)).sg 25 _ (by decide)) 10 _ _, rfl⟩
        have hC1 : σ1.1 2 = nI nC := (q1.1 2 (by decide)).trans ((adS_sc _ _ _ _ 2 (by decide)).trans hC)
        have hf1 : ∀ a9 c9 : Nat, forF σ1.2.1 a9 c9 = forF σ.2.1 a9 c9 := fun a9 c9 => forF_cong ((q1.2 0 (by decide)).trans (adS_ne _ _ _ _ 0 (by decide))) ((q1.2 1 (by decide)).trans (adS_ne _ _ _ _ 1 (by decide))) ((q1.2 4 (by decide)).trans (adS_ne _ _ _ _ 4 (by decide))) ((q1.2 5 (by decide)).trans (adS_ne _ _ _ _ 5 (by decide))) a9 c9
        refine lv_istore (lv' := [(6, .int 0), (5, .int (nI (16 * j_p1 + j_p2))), (0, .ref M), (1, .int (nI j_p1)), (2, .int (nI j_p2)), (3, .int v), (4, .int o)]) hx hb dX7_advance_98 hl (by decide) rfl (fun ls hl => ?_)
        refine lv_iconst (v := 0) hx hb dX7_advance_100 (by decide) ?_
        refine lv_istore (lv' := [(7, .int 0), (6, .int 0), (5, .int (nI (16 * j_p1 + j_p2))), (0, .ref M), (1, .int (nI j_p1)), (2, .int (nI j_p2)), (3, .int v), (4, .int o)]) hx hb dX7_advance_101 hl (by decide) rfl (fun ls hl => ?_)
        refine lv_iconst (v := 0) hx hb dX7_advance_103 (by decide) ?_
        refine lv_istore (lv' := [(8, .int 0), (7, .int 0), (6, .int 0), (5, .int (nI (16 * j_p1 + j_p2))), (0, .ref M), (1, .int (nI j_p1)), (2, .int (nI j_p2)), (3, .int v), (4, .int o)]) hx hb dX7_advance_104 hl (by decide) rfl (fun ls hl => ?_)
        refine w_loopR (fun (i : Nat) ls => i ≤ nC ∧ lv_has ls 9 [(0, .ref M), (1, .int (nI j_p1)), (2, .int (nI j_p2)), (3, .int v), (4, .int o), (5, .int (nI (16 * j_p1 + j_p2))), (7, .int (nI (cntF (fun c => forF σ.2.1 j_p1 c && decide (nI (bk c ((16 * j_p1 + j_p2) / 16) ((16 * j_p1 + j_p2) % 16)) < v)) i))), (8, .int (nI i))]) (fun (i : Nat) => nC - i) ?_ 0 ⟨Nat.zero_le _, lv_sub hl [4, 5, 6, 7, 8, 3, 1, 0] rfl⟩
        intro i ls h9 ih
        obtain ⟨hi, hl⟩ := h9
        refine lv_iload hx hb dX7_advance_106 (lv_at hl 7 rfl) ?_
        refine lv_aload_n hx hb dX7_advance_108 rfl (lv_at hl 0 rfl) ?_
        refine m_get (v := .int (nI nC)) hx hb hts h7 hown hK hM 2 (by decide) (hts (.fieldLink RX7 64 "ConfigBeaconModel" "clients" "I") (by decide +kernel)) (by show some (Value.int (σ1.1 2)) = _; rw [hC1]) dX7_advance_109 ?_
        refine lv_icmp_ge (tgt := 152) hx hb dX7_advance_112 (by decide) (fun c_11 => ?_) (fun c_11 => ?_)
        · have n_11 : nC ≤ i := (nI_leI (a := nC) (b := i) (by omega) (by omega)).mp c_11
          refine lv_iload hx hb dX7_advance_152 (lv_at hl 6 rfl) ?_
          exact xw_iret hx hb hr hlocks hS (mJ_ok hM (by rw [kAd, if_pos z_c_1, ecl, if_pos (Int32.not_le.mp c_2)]) q2 (by rw [ecl, ix_nI (j := j_p1) (by omega), show nC = i by omega]; exact ⟨rfl, q1⟩)) (Nat.le_refl _) (Nat.le_refl _) dX7_advance_154
        · have n_11 : i < nC := Nat.not_le.mp (fun q => c_11 ((nI_leI (a := nC) (b := i) (by omega) (by omega)).mpr q))
          refine lv_iload hx hb dX7_advance_115 (lv_at hl 6 rfl) ?_
          refine lv_aload_n hx hb dX7_advance_117 rfl (lv_at hl 0 rfl) ?_
          refine lv_iload_n hx hb dX7_advance_118 rfl (lv_at hl 1 rfl) ?_
          refine lv_iload hx hb dX7_advance_119 (lv_at hl 7 rfl) ?_
          refine xr_call (va_runV (As := [.int (nI j_p1), .int (nI i)]) (rest := [.int (nI (cntF (fun c => forF σ.2.1 j_p1 c && decide (nI (bk c ((16 * j_p1 + j_p2) / 16) ((16 * j_p1 + j_p2) % 16)) < v)) i))]) ⟨hx, hb, hml, hown, hts⟩ (c_X7_isFor l D cA A M ad σ1 j_p1 i (by omega) (by omega)) (cwV 2 hts gX7_advance_X7_isFor rfl rfl rfl (by decide +kernel) ⟨Nat.le_of_ble_eq_true rfl, Nat.le_of_ble_eq_true rfl⟩) (xPV hK hM.1 rfl hM) rfl rfl hl.1 rfl (lv_room (Nat.le_of_ble_eq_true rfl)) dX7_advance_121 ⟨Nat.le_of_ble_eq_true rfl, Nat.le_of_ble_eq_true rfl⟩) ?_
          refine xb_eq (tgt := 142) hx hb dX7_advance_124 (by decide) (fun c_12 => ?_) (fun c_12 => ?_)
          · rw [hf1] at c_12
            refine lv_iconst (v := 0) hx hb dX7_advance_142 (by decide) ?_
            refine xe_iadd hx hb (nI_add (cntF (fun c => forF σ.2.1 j_p1 c && decide (nI (bk c ((16 * j_p1 + j_p2) / 16) ((16 * j_p1 + j_p2) % 16)) < v)) i) 0) dX7_advance_143 ?_
            refine xe_top (show nI (cntF (fun c => forF σ.2.1 j_p1 c && decide (nI (bk c ((16 * j_p1 + j_p2) / 16) ((16 * j_p1 + j_p2) % 16)) < v)) i + 0) = nI (cntF (fun c => forF σ.2.1 j_p1 c && decide (nI (bk c ((16 * j_p1 + j_p2) / 16) ((16 * j_p1 + j_p2) % 16)) < v)) (i + 1)) from by rw [cntF_f (by simp only [Bool.true_and, Bool.false_and, Bool.and_true, Bool.and_false, decide_eq_true_eq, decide_eq_false_iff_not, not_false_eq_true, not_true_eq_false, Bool.or_true, Bool.true_or, Bool.or_false, Bool.false_or, c_5, Int32.not_le.mp c_5, c_11, n_11, Int32.not_le.mp c_11, c_12])]; rfl) ?_
            refine lv_istore (lv' := [(7, .int (nI (cntF (fun c => forF σ.2.1 j_p1 c && decide (nI (bk c ((16 * j_p1 + j_p2) / 16) ((16 * j_p1 + j_p2) % 16)) < v)) (i + 1)))), (0, .ref M), (1, .int (nI j_p1)), (2, .int (nI j_p2)), (3, .int v), (4, .int o), (5, .int (nI (16 * j_p1 + j_p2))), (8, .int (nI i))]) hx hb dX7_advance_144 hl (by decide) rfl (fun ls hl => ?_)
            refine lv_iinc (v := (nI (i + 1))) (lv' := [(8, .int (nI (i + 1))), (7, .int (nI (cntF (fun c => forF σ.2.1 j_p1 c && decide (nI (bk c ((16 * j_p1 + j_p2) / 16) ((16 * j_p1 + j_p2) % 16)) < v)) (i + 1)))), (0, .ref M), (1, .int (nI j_p1)), (2, .int (nI j_p2)), (3, .int v), (4, .int o), (5, .int (nI (16 * j_p1 + j_p2)))]) hx hb dX7_advance_146 hl (k := 7) rfl (ni_inc i) (by decide) rfl (fun ls hl => ?_)
            refine lv_goto (tgt := 106) hx hb dX7_advance_149 (by decide) ?_
            exact ih (i + 1) _ ⟨(by omega), lv_sub hl [2, 3, 4, 5, 6, 7, 1, 0] rfl⟩ (by omega)
          · rw [hf1] at c_12
            refine lv_iload hx hb dX7_advance_127 (lv_at hl 7 rfl) ?_
            refine lv_iload hx hb dX7_advance_129 (lv_at hl 5 rfl) ?_
            refine xr_call (va_runS (As := [.int (nI i), .int (nI (16 * j_p1 + j_p2))]) (rest := [.int (nI (cntF (fun c => forF σ.2.1 j_p1 c && decide (nI (bk c ((16 * j_p1 + j_p2) / 16) ((16 * j_p1 + j_p2) % 16)) < v)) i))]) ⟨hx, hb, hml, hown, hts⟩ (c_X7_bucket l D cA i (16 * j_p1 + j_p2) (by omega) (by omega)) (va_cwS 2 hts gX7_advance_X7_bucket rfl rfl rfl (by decide +kernel) ⟨Nat.le_of_ble_eq_true rfl, Nat.le_of_ble_eq_true rfl⟩) (xPS hK trivial) rfl rfl hl.1 rfl (lv_room (Nat.le_of_ble_eq_true rfl)) dX7_advance_131 ⟨Nat.le_of_ble_eq_true rfl, Nat.le_of_ble_eq_true rfl⟩) ?_
            refine lv_iload_n hx hb dX7_advance_134 rfl (lv_at hl 3 rfl) ?_
            refine lv_icmp_ge (tgt := 142) hx hb dX7_advance_135 (by decide) (fun c_13 => ?_) (fun c_13 => ?_)
            · refine lv_iconst (v := 0) hx hb dX7_advance_142 (by decide) ?_
              refine xe_iadd hx hb (nI_add (cntF (fun c => forF σ.2.1 j_p1 c && decide (nI (bk c ((16 * j_p1 + j_p2) / 16) ((16 * j_p1 + j_p2) % 16)) < v)) i) 0) dX7_advance_143 ?_
              refine xe_top (show nI (cntF (fun c => forF σ.2.1 j_p1 c && decide (nI (bk c ((16 * j_p1 + j_p2) / 16) ((16 * j_p1 + j_p2) % 16)) < v)) i + 0) = nI (cntF (fun c => forF σ.2.1 j_p1 c && decide (nI (bk c ((16 * j_p1 + j_p2) / 16) ((16 * j_p1 + j_p2) % 16)) < v)) (i + 1)) from by rw [cntF_f (by simp only [Bool.true_and, Bool.false_and, Bool.and_true, Bool.and_false, decide_eq_true_eq, decide_eq_false_iff_not, not_false_eq_true, not_true_eq_false, Bool.or_true, Bool.true_or, Bool.or_false, Bool.false_or, c_11, n_11, Int32.not_le.mp c_11, c_12, c_13, Int32.not_lt.mpr c_13])]; rfl) ?_
              refine lv_istore (lv' := [(7, .int (nI (cntF (fun c => forF σ.2.1 j_p1 c && decide (nI (bk c ((16 * j_p1 + j_p2) / 16) ((16 * j_p1 + j_p2) % 16)) < v)) (i + 1)))), (0, .ref M), (1, .int (nI j_p1)), (2, .int (nI j_p2)), (3, .int v), (4, .int o), (5, .int (nI (16 * j_p1 + j_p2))), (8, .int (nI i))]) hx hb dX7_advance_144 hl (by decide) rfl (fun ls hl => ?_)
              refine lv_iinc (v := (nI (i + 1))) (lv' := [(8, .int (nI (i + 1))), (7, .int (nI (cntF (fun c => forF σ.2.1 j_p1 c && decide (nI (bk c ((16 * j_p1 + j_p2) / 16) ((16 * j_p1 + j_p2) % 16)) < v)) (i + 1)))), (0, .ref M), (1, .int (nI j_p1)), (2, .int (nI j_p2)), (3, .int v), (4, .int o), (5, .int (nI (16 * j_p1 + j_p2)))]) hx hb dX7_advance_146 hl (k := 7) rfl (ni_inc i) (by decide) rfl (fun ls hl => ?_)
              refine lv_goto (tgt := 106) hx hb dX7_advance_149 (by decide) ?_
              exact ih (i + 1) _ ⟨(by omega), lv_sub hl [2, 3, 4, 5, 6, 7, 1, 0] rfl⟩ (by omega)
            · refine lv_iconst (v := 1) hx hb dX7_advance_138 (by decide) ?_
              refine lv_goto (tgt := 143) hx hb dX7_advance_139 (by decide) ?_
              refine xe_iadd hx hb (nI_add (cntF (fun c => forF σ.2.1 j_p1 c && decide (nI (bk c ((16 * j_p1 + j_p2) / 16) ((16 * j_p1 + j_p2) % 16)) < v)) i) 1) dX7_advance_143 ?_
              refine xe_top (show nI (cntF (fun c => forF σ.2.1 j_p1 c && decide (nI (bk c ((16 * j_p1 + j_p2) / 16) ((16 * j_p1 + j_p2) % 16)) < v)) i + 1) = nI (cntF (fun c => forF σ.2.1 j_p1 c && decide (nI (bk c ((16 * j_p1 + j_p2) / 16) ((16 * j_p1 + j_p2) % 16)) < v)) (i + 1)) from by rw [cntF_t (by simp only [Bool.true_and, Bool.false_and, Bool.and_true, Bool.and_false, decide_eq_true_eq, decide_eq_false_iff_not, not_false_eq_true, not_true_eq_false, Bool.or_true, Bool.true_or, Bool.or_false, Bool.false_or, c_11, n_11, Int32.not_le.mp c_11, c_12, c_13, Int32.not_le.mp c_13])]) ?_
              refine lv_istore (lv' := [(7, .int (nI (cntF (fun c => forF σ.2.1 j_p1 c && decide (nI (bk c ((16 * j_p1 + j_p2) / 16) ((16 * j_p1 + j_p2) % 16)) < v)) (i + 1)))), (0, .ref M), (1, .int (nI j_p1)), (2, .int (nI j_p2)), (3, .int v), (4, .int o), (5, .int (nI (16 * j_p1 + j_p2))), (8, .int (nI i))]) hx hb dX7_advance_144 hl (by decide) rfl (fun ls hl => ?_)
              refine lv_iinc (v := (nI (i + 1))) (lv' := [(8, .int (nI (i + 1))), (7, .int (nI (cntF (fun c => forF σ.2.1 j_p1 c && decide (nI (bk c ((16 * j_p1 + j_p2) / 16) ((16 * j_p1 + j_p2) % 16)) < v)) (i + 1)))), (0, .ref M), (1, .int (nI j_p1)), (2, .int (nI j_p2)), (3, .int v), (4, .int o), (5, .int (nI (16 * j_p1 + j_p2)))]) hx hb dX7_advance_146 hl (k := 7) rfl (ni_inc i) (by decide) rfl (fun ls hl => ?_)
              refine lv_goto (tgt := 106) hx hb dX7_advance_149 (by decide) ?_
              exact ih (i + 1) _ ⟨(by omega), lv_sub hl [2, 3, 4, 5, 6, 7, 1, 0] rfl⟩ (by omega)
  · have z_c_1 : ¬ (wrF σ nL p1 p2 (inB v 1 100) o true) = 0 := fun q => by simp [gz, q] at c_1
    refine lv_iconst (v := 0) hx hb dX7_advance_23 (by decide) ?_
    exact xw_iret hx hb hr hlocks hS (mJ_no hM (by rw [kAd, if_neg z_c_1]) z_c_1 rfl (PE.rf.sg 25 _ (by decide))) (Nat.le_refl _) (Nat.le_refl _) dX7_advance_24
set_option maxHeartbeats 4000000 in
set_option maxRecDepth 100000 in
theorem c_X7_abort (l : Launch) (D : va_G) (cA : Nat → ClassId) (A : Nat → Prop) (M : Nat) (ad : Nat → Nat) (σ : MS) (p1 : Int32) (p2 : Int32) (o : Int32) (nL : Nat) (hL : σ.1 6 = nI nL) (hL2 : nL ≤ 8) : Met l yX7_abort wsX7_abort (rmK 4 0 0) (xP D cA [.ref M, .int p1, .int p2, .int o] (MR D cA A M ad σ)) (xW (mJ D cA A M ad σ (wrF σ nL p1 p2 true o true) (fun r τ => r = some (.int (σ.2.1 10 (cl p1 p2))) ∧ PE τ (sa σ 10 (cl p1 p2) (-1)))) A) 0 0 A := by
  refine Met.ofW (cc := cX7_abort) (maxL := 5) (ret := (some .int)) (by decide) rfl ?_
  intro p e s m args below meth c s₁ B hml hv
  obtain ⟨rfl, hK, hI⟩ := hv
  have hx := B.exec
  have hb := B.bytes
  have hr := B.returns
  have hts := atoms_spec (ws := wsX7_abort) B.pre
  have hown : s.vm.findClass RX7 = some m.cls := findClass_of_methodNamed B.named
  have hlocks := B.notSynchronized
  have hl := lv_entry ([.ref M, .int p1, .int p2, .int o]) (n := 5) (Nat.le_of_ble_eq_true rfl)
  rw [lg_entry_eq]
  generalize (lg_sl ([.ref M, .int p1, .int p2, .int o]) ++ List.replicate (5 - (lg_sl ([.ref M, .int p1, .int p2, .int o])).length) Slot.unset).toArray = ls at hl ⊢
  have hl : lv_has ls 5 [(0, .ref M), (1, .int p1), (2, .int p2), (3, .int o)] := hl
  have hM : MR D cA A M ad σ s.heap := hI
  have h7 : ∀ w ∈ wsX70, w ∈ wsX7_abort := fun _ h => List.mem_cons_of_mem _ (List.mem_append_right _ h)
  have hS : va_S A s.heap s.heap [] := va_S.rf
  refine lv_aload_n hx hb dX7_abort_0 rfl (lv_at hl 0 rfl) ?_
  refine lv_aload_n hx hb dX7_abort_1 rfl (lv_at hl 0 rfl) ?_
  refine lv_iload_n hx hb dX7_abort_2 rfl (lv_at hl 1 rfl) ?_
  refine lv_iload_n hx hb dX7_abort_3 rfl (lv_at hl 2 rfl) ?_
  refine lv_iconst (v := 1) hx hb dX7_abort_4 (by decide) ?_
  refine lv_iload_n hx hb dX7_abort_5 rfl (lv_at hl 3 rfl) ?_
  refine lv_iconst (v := 1) hx hb dX7_abort_6 (by decide) ?_
  refine xr_call (va_runV (As := [.int p1, .int p2, .int 1, .int o, .int 1]) (rest := [.ref M]) ⟨hx, hb, hml, hown, hts⟩ (c_X7_wrong l D cA A M ad σ p1 p2 true o true nL hL hL2) (cwV 5 hts gX7_abort_X7_wrong rfl rfl rfl (by decide +kernel) ⟨Nat.le_of_ble_eq_true rfl, Nat.le_of_ble_eq_true rfl⟩) (xPV hK hM.1 rfl hM) rfl rfl hl.1 rfl (lv_room (Nat.le_of_ble_eq_true rfl)) dX7_abort_7 ⟨Nat.le_of_ble_eq_true rfl, Nat.le_of_ble_eq_true rfl⟩) ?_
  refine xw_calls (va_runV (As := [.int (wrF σ nL p1 p2 true o true)]) (rest := []) ⟨hx, hb, hml, hown, hts⟩ (c_X7_goes l D cA A M ad σ (wrF σ nL p1 p2 true o true)) (cwV 1 hts gX7_abort_X7_goes rfl rfl rfl (by decide +kernel) ⟨Nat.le_of_ble_eq_true rfl, Nat.le_of_ble_eq_true rfl⟩) (xPV hK hM.1 rfl hM) rfl rfl hl.1 rfl (lv_room (Nat.le_of_ble_eq_true rfl)) dX7_abort_10 ⟨Nat.le_of_ble_eq_true rfl, Nat.le_of_ble_eq_true rfl⟩) hS (fun _ _ h => h) (fun _ h => h) (fun H locs hM _ _ hS => ?_)
  refine xb_ne (tgt := 18) hx hb dX7_abort_13 (by decide) (fun c_1 => ?_) (fun c_1 => ?_)
  · have z_c_1 := gz_t c_1
    obtain ⟨y1_c_1, y2_c_1, y3_c_1, y4_c_1⟩ := wrF_0 z_c_1
    obtain ⟨j_p1, hj_p1, rfl⟩ := okN_of (by omega) y1_c_1
    obtain ⟨j_p2, hj_p2, rfl⟩ := okS_of y2_c_1
    have ecl : cl (nI j_p1) (nI j_p2) = 16 * j_p1 + j_p2 := cl_nI (by omega) hj_p2
    refine lv_aload_n hx hb dX7_abort_18 rfl (lv_at hl 0 rfl) ?_
    refine m_get (v := .ref (ad 10)) hx hb hts h7 hown hK hM 10 (by decide) (hts (.fieldLink RX7 34 "ConfigBeaconModel" "shares" "[I") (by decide +kernel)) rfl dX7_abort_19 ?_
    refine lv_iload_n hx hb dX7_abort_22 rfl (lv_at hl 1 rfl) ?_
    refine lv_iload_n hx hb dX7_abort_23 rfl (lv_at hl 2 rfl) ?_
    refine xr_call (va_runS (As := [.int (nI j_p1), .int (nI j_p2)]) (rest := [.ref (ad 10)]) ⟨hx, hb, hml, hown, hts⟩ (c_X7_cell l D cA j_p1 j_p2) (va_cwS 2 hts gX7_abort_X7_cell rfl rfl rfl (by decide +kernel) ⟨Nat.le_of_ble_eq_true rfl, Nat.le_of_ble_eq_true rfl⟩) (xPS hK trivial) rfl rfl hl.1 rfl (lv_room (Nat.le_of_ble_eq_true rfl)) dX7_abort_24 ⟨Nat.le_of_ble_eq_true rfl, Nat.le_of_ble_eq_true rfl⟩) ?_
    refine m_ald hx hb hK hM 10 (by decide) (n := 128) rfl (16 * j_p1 + j_p2) rfl (by omega) (by decide) dX7_abort_27 (v := (σ.2.1 10 (16 * j_p1 + j_p2))) rfl ?_
    refine lv_istore (lv' := [(4, .int (σ.2.1 10 (16 * j_p1 + j_p2))), (0, .ref M), (1, .int (nI j_p1)), (2, .int (nI j_p2)), (3, .int o)]) hx hb dX7_abort_28 hl (by decide) rfl (fun ls hl => ?_)
    refine lv_aload_n hx hb dX7_abort_30 rfl (lv_at hl 1 rfl) ?_
    refine m_get (v := .ref (ad 10)) hx hb hts h7 hown hK hM 10 (by decide) (hts (.fieldLink RX7 34 "ConfigBeaconModel" "shares" "[I") (by decide +kernel)) rfl dX7_abort_31 ?_
    refine lv_iload_n hx hb dX7_abort_34 rfl (lv_at hl 2 rfl) ?_
    refine lv_iload_n hx hb dX7_abort_35 rfl (lv_at hl 3 rfl) ?_
    refine xr_call (va_runS (As := [.int (nI j_p1), .int (nI j_p2)]) (rest := [.ref (ad 10)]) ⟨hx, hb, hml, hown, hts⟩ (c_X7_cell l D cA j_p1 j_p2) (va_cwS 2 hts gX7_abort_X7_cell rfl rfl rfl (by decide +kernel) ⟨Nat.le_of_ble_eq_true rfl, Nat.le_of_ble_eq_true rfl⟩) (xPS hK trivial) rfl rfl hl.1 rfl (lv_room (Nat.le_of_ble_eq_true rfl)) dX7_abort_36 ⟨Nat.le_of_ble_eq_true rfl, Nat.le_of_ble_eq_true rfl⟩) ?_
    refine lv_iconst (v := (-1)) hx hb dX7_abort_39 (by decide) ?_
    refine m_ast hx hb hK hM hS 10 (by decide) (n := 128) rfl (16 * j_p1 + j_p2) rfl (by omega) (by decide) dX7_abort_40 (fun H locs hM hS => ?_)
    refine lv_iload hx hb dX7_abort_41 (lv_at hl 0 rfl) ?_
    exact xw_iret hx hb hr hlocks hS (mJ_ok hM z_c_1 z_c_1 (by rw [ecl]; exact ⟨rfl, PE_sa (PE.rf.sg 25 _ (by decide)) 10 _ _⟩)) (Nat.le_refl _) (Nat.le_refl _) dX7_abort_43
  · have z_c_1 : ¬ (wrF σ nL p1 p2 true o true) = 0 := fun q => by simp [gz, q] at c_1
    refine lv_iconst (v := 0) hx hb dX7_abort_16 (by decide) ?_
    exact xw_iret hx hb hr hlocks hS (mJ_no hM rfl z_c_1 rfl (PE.rf.sg 25 _ (by decide))) (Nat.le_refl _) (Nat.le_refl _) dX7_abort_17
set_option maxHeartbeats 4000000 in
set_option maxRecDepth 100000 in
theorem c_X7_locksOf (l : Launch) (D : va_G) (cA : Nat → ClassId) (A : Nat → Prop) (M : Nat) (ad : Nat → Nat) (σ : MS) (o : Int32) : Met l yX7_locksOf wsX7_locksOf (rmK 0 0 0) (xP D cA [.ref M, .int o] (MR D cA A M ad σ)) (xR (some (.int (nI (lksF (σ.2.1 11) o))))) 0 0 (fun _ => False) := by
  refine Met.ofW (cc := cX7_locksOf) (maxL := 4) (ret := (some .int)) (by decide) rfl ?_
  intro p e s m args below meth c s₁ B hml hv
  obtain ⟨rfl, hK, hI⟩ := hv
  have hx := B.exec
  have hb := B.bytes
  have hr := B.returns
  have hts := atoms_spec (ws := wsX7_locksOf) B.pre
  have hown : s.vm.findClass RX7 = some m.cls := findClass_of_methodNamed B.named
  have hlocks := B.notSynchronized
  have hl := lv_entry ([.ref M, .int o]) (n := 4) (Nat.le_of_ble_eq_true rfl)
  rw [lg_entry_eq]
  generalize (lg_sl ([.ref M, .int o]) ++ List.replicate (4 - (lg_sl ([.ref M, .int o])).length) Slot.unset).toArray = ls at hl ⊢
  have hl : lv_has ls 4 [(0, .ref M), (1, .int o)] := hl
  have hM : MR D cA A M ad σ s.heap := hI
  have h7 : ∀ w ∈ wsX70, w ∈ wsX7_locksOf := fun _ h => List.mem_cons_of_mem _ (List.mem_append_right _ h)
  refine lv_iconst (v := 0) hx hb dX7_locksOf_0 (by decide) ?_
  refine lv_istore_n (lv' := [(2, .int 0), (0, .ref M), (1, .int o)]) hx hb dX7_locksOf_1 rfl hl (by decide) rfl (fun ls hl => ?_)
  refine lv_iconst (v := 0) hx hb dX7_locksOf_2 (by decide) ?_
  refine lv_istore_n (lv' := [(3, .int 0), (2, .int 0), (0, .ref M), (1, .int o)]) hx hb dX7_locksOf_3 rfl hl (by decide) rfl (fun ls hl => ?_)
  refine w_loopR (fun (i : Nat) ls => i ≤ 136 ∧ lv_has ls 4 [(0, .ref M), (1, .int o), (2, .int (nI (cntF (fun k => decide (σ.2.1 11 k = o)) i))), (3, .int (nI i))]) (fun (i : Nat) => 136 - i) ?_ 0 ⟨Nat.zero_le _, lv_sub hl [2, 3, 1, 0] rfl⟩
  intro i ls h9 ih
  obtain ⟨hi, hl⟩ := h9
  refine lv_iload_n hx hb dX7_locksOf_4 rfl (lv_at hl 3 rfl) ?_
  refine lv_sipush (v := 136) hx hb dX7_locksOf_5 (by decide) ?_
  refine lv_icmp_ge (tgt := 35) hx hb dX7_locksOf_8 (by decide) (fun c_1 => ?_) (fun c_1 => ?_)
  · have n_1 : 136 ≤ i := (nI_leI (a := 136) (b := i) (by omega) (by omega)).mp c_1
    refine lv_iload_n hx hb dX7_locksOf_35 rfl (lv_at hl 2 rfl) ?_
    exact xr_iret hx hb hr hlocks (by rw [lksF, show 136 = i by omega]) dX7_locksOf_36
  · have n_1 : i < 136 := Nat.not_le.mp (fun q => c_1 ((nI_leI (a := 136) (b := i) (by omega) (by omega)).mpr q))
    refine lv_iload_n hx hb dX7_locksOf_11 rfl (lv_at hl 2 rfl) ?_
    refine lv_aload_n hx hb dX7_locksOf_12 rfl (lv_at hl 0 rfl) ?_
    refine m_get (v := .ref (ad 11)) hx hb hts h7 hown hK hM 11 (by decide) (hts (.fieldLink RX7 37 "ConfigBeaconModel" "locks" "[I") (by decide +kernel)) rfl dX7_locksOf_13 ?_
    refine lv_iload_n hx hb dX7_locksOf_16 rfl (lv_at hl 3 rfl) ?_
    refine m_ald hx hb hK hM 11 (by decide) (n := 136) rfl i rfl (by omega) (by decide) dX7_locksOf_17 (v := (σ.2.1 11 i)) rfl ?_
    refine lv_iload_n hx hb dX7_locksOf_18 rfl (lv_at hl 1 rfl) ?_
    refine lv_icmp_ne (tgt := 26) hx hb dX7_locksOf_19 (by decide) (fun c_2 => ?_) (fun c_2 => ?_)
    · refine lv_iconst (v := 0) hx hb dX7_locksOf_26 (by decide) ?_
      refine xe_iadd hx hb (nI_add (cntF (fun k => decide (σ.2.1 11 k = o)) i) 0) dX7_locksOf_27 ?_
      refine xe_top (show nI (cntF (fun k => decide (σ.2.1 11 k = o)) i + 0) = nI (cntF (fun k => decide (σ.2.1 11 k = o)) (i + 1)) from by rw [cntF_f (by simp [c_1, n_1, Int32.not_le.mp c_1, c_2])]; rfl) ?_
      refine lv_istore_n (lv' := [(2, .int (nI (cntF (fun k => decide (σ.2.1 11 k = o)) (i + 1)))), (0, .ref M), (1, .int o), (3, .int (nI i))]) hx hb dX7_locksOf_28 rfl hl (by decide) rfl (fun ls hl => ?_)
      refine lv_iinc (v := (nI (i + 1))) (lv' := [(3, .int (nI (i + 1))), (2, .int (nI (cntF (fun k => decide (σ.2.1 11 k = o)) (i + 1)))), (0, .ref M), (1, .int o)]) hx hb dX7_locksOf_29 hl (k := 3) rfl (ni_inc i) (by decide) rfl (fun ls hl => ?_)
      refine lv_goto (tgt := 4) hx hb dX7_locksOf_32 (by decide) ?_
      exact ih (i + 1) _ ⟨(by omega), lv_sub hl [2, 3, 1, 0] rfl⟩ (by omega)
    · refine lv_iconst (v := 1) hx hb dX7_locksOf_22 (by decide) ?_
      refine lv_goto (tgt := 27) hx hb dX7_locksOf_23 (by decide) ?_
      refine xe_iadd hx hb (nI_add (cntF (fun k => decide (σ.2.1 11 k = o)) i) 1) dX7_locksOf_27 ?_
      refine xe_top (show nI (cntF (fun k => decide (σ.2.1 11 k = o)) i + 1) = nI (cntF (fun k => decide (σ.2.1 11 k = o)) (i + 1)) from by rw [cntF_t (by simp [c_1, n_1, Int32.not_le.mp c_1, c_2])]) ?_
      refine lv_istore_n (lv' := [(2, .int (nI (cntF (fun k => decide (σ.2.1 11 k = o)) (i + 1)))), (0, .ref M), (1, .int o), (3, .int (nI i))]) hx hb dX7_locksOf_28 rfl hl (by decide) rfl (fun ls hl => ?_)
      refine lv_iinc (v := (nI (i + 1))) (lv' := [(3, .int (nI (i + 1))), (2, .int (nI (cntF (fun k => decide (σ.2.1 11 k = o)) (i + 1)))), (0, .ref M), (1, .int o)]) hx hb dX7_locksOf_29 hl (k := 3) rfl (ni_inc i) (by decide) rfl (fun ls hl => ?_)
      refine lv_goto (tgt := 4) hx hb dX7_locksOf_32 (by decide) ?_
      exact ih (i + 1) _ ⟨(by omega), lv_sub hl [2, 3, 1, 0] rfl⟩ (by omega)
set_option maxHeartbeats 4000000 in
set_option maxRecDepth 100000 in
theorem c_X7_lockAt (l : Launch) (D : va_G) (cA : Nat → ClassId) (a : Nat) (v : Int32) (hv : v = -1 ∨ okS v = true) : Met l yX7_lockAt wsX7_lockAt (rmK 1 0 0) (xP D cA [.int (nI a), .int v] (fun _ => True)) (xR (some (.int (nI (lkA a v))))) 0 0 (fun _ => False) := by
  refine Met.ofW (cc := cX7_lockAt) (maxL := 2) (ret := (some .int)) (by decide) rfl ?_
  intro p e s m args below meth c s₁ B hml hv
  obtain ⟨rfl, hK, hI⟩ := hv
  have hx := B.exec
  have hb := B.bytes
  have hr := B.returns
  have hts := atoms_spec (ws := wsX7_lockAt) B.pre
  have hown : s.vm.findClass RX7 = some m.cls := findClass_of_methodNamed B.named
  have hlocks := B.notSynchronized
  have hl := lv_entry ([.int (nI a), .int v]) (n := 2) (Nat.le_of_ble_eq_true rfl)
  rw [lg_entry_eq]
  generalize (lg_sl ([.int (nI a), .int v]) ++ List.replicate (2 - (lg_sl ([.int (nI a), .int v])).length) Slot.unset).toArray = ls at hl ⊢
  have hl : lv_has ls 2 [(0, .int (nI a)), (1, .int v)] := hl
  refine lv_iload_n hx hb dX7_lockAt_0 rfl (lv_at hl 1 rfl) ?_
  refine lv_iconst (v := (-1)) hx hb dX7_lockAt_1 (by decide) ?_
  refine lv_icmp_ne (tgt := 13) hx hb dX7_lockAt_2 (by decide) (fun c_1 => ?_) (fun c_1 => ?_)
  · obtain ⟨j, hj, rfl⟩ := okS_of (hv.resolve_left c_1)
    refine lv_iload_n hx hb dX7_lockAt_13 rfl (lv_at hl 0 rfl) ?_
    refine lv_iload_n hx hb dX7_lockAt_14 rfl (lv_at hl 1 rfl) ?_
    refine xr_call (va_runS (As := [.int (nI a), .int (nI j)]) (rest := []) ⟨hx, hb, hml, hown, hts⟩ (c_X7_cell l D cA a j) (va_cwS 2 hts gX7_lockAt_X7_cell rfl rfl rfl (by decide +kernel) ⟨Nat.le_of_ble_eq_true rfl, Nat.le_of_ble_eq_true rfl⟩) (xPS hK trivial) rfl rfl hl.1 rfl (lv_room (Nat.le_of_ble_eq_true rfl)) dX7_lockAt_15 ⟨Nat.le_of_ble_eq_true rfl, Nat.le_of_ble_eq_true rfl⟩) ?_
    exact xr_iret hx hb hr hlocks (by rw [lkA, if_neg c_1, ix_nI (by omega)]) dX7_lockAt_18
  · refine lv_sipush (v := 128) hx hb dX7_lockAt_5 (by decide) ?_
    refine lv_iload_n hx hb dX7_lockAt_8 rfl (lv_at hl 0 rfl) ?_
    refine xe_iadd hx hb (nI_add 128 a) dX7_lockAt_9 ?_
    refine lv_goto (tgt := 18) hx hb dX7_lockAt_10 (by decide) ?_
    exact xr_iret hx hb hr hlocks (by rw [lkA, if_pos c_1]) dX7_lockAt_18
set_option maxHeartbeats 4000000 in
set_option maxRecDepth 100000 in
theorem c_X7_isBarred (l : Launch) (D : va_G) (cA : Nat → ClassId) (A : Nat → Prop) (M : Nat) (ad : Nat → Nat) (σ : MS) (a : Nat) (p2 : Int32) (o : Int32) (ha : a < 8) : Met l yX7_isBarred wsX7_isBarred (rmK 1 0 0) (xP D cA [.ref M, .int (nI a), .int p2, .int o] (MR D cA A M ad σ)) (xR (some (.int (bI (barF (σ.2.1 11) a p2 o 16))))) 0 0 (fun _ => False) := by
  refine Met.ofW (cc := cX7_isBarred) (maxL := 7) (ret := (some .boolean)) (by decide) rfl ?_
  intro p e s m args below meth c s₁ B hml hv
  obtain ⟨rfl, hK, hI⟩ := hv
  have hx := B.exec
  have hb := B.bytes
  have hr := B.returns
  have hts := atoms_spec (ws := wsX7_isBarred) B.pre
  have hown : s.vm.findClass RX7 = some m.cls := findClass_of_methodNamed B.named
  have hlocks := B.notSynchronized
  have hl := lv_entry ([.ref M, .int (nI a), .int p2, .int o]) (n := 7) (Nat.le_of_ble_eq_true rfl)
  rw [lg_entry_eq]
  generalize (lg_sl ([.ref M, .int (nI a), .int p2, .int o]) ++ List.replicate (7 - (lg_sl ([.ref M, .int (nI a), .int p2, .int o])).length) Slot.unset).toArray = ls at hl ⊢
  have hl : lv_has ls 7 [(0, .ref M), (1, .int (nI a)), (2, .int p2), (3, .int o)] := hl
  have hM : MR D cA A M ad σ s.heap := hI
  have h7 : ∀ w ∈ wsX70, w ∈ wsX7_isBarred := fun _ h => List.mem_cons_of_mem _ (List.mem_append_right _ h)
  refine lv_aload_n hx hb dX7_isBarred_0 rfl (lv_at hl 0 rfl) ?_
  refine m_get (v := .ref (ad 11)) hx hb hts h7 hown hK hM 11 (by decide) (hts (.fieldLink RX7 37 "ConfigBeaconModel" "locks" "[I") (by decide +kernel)) rfl dX7_isBarred_1 ?_
  refine lv_sipush (v := 128) hx hb dX7_isBarred_4 (by decide) ?_
  refine lv_iload_n hx hb dX7_isBarred_7 rfl (lv_at hl 1 rfl) ?_
  refine xe_iadd hx hb (nI_add 128 a) dX7_isBarred_8 ?_
  refine m_ald hx hb hK hM 11 (by decide) (n := 136) rfl (128 + a) rfl (by omega) (by decide) dX7_isBarred_9 (v := (σ.2.1 11 (128 + a))) rfl ?_
  refine lv_if_le (tgt := 31) hx hb dX7_isBarred_10 (by decide) (fun c_1 => ?_) (fun c_1 => ?_)
  · refine lv_iconst (v := 0) hx hb dX7_isBarred_31 (by decide) ?_
    refine xe_top (show (0 : Int32) = bI (barF (σ.2.1 11) a p2 o 0) from by simp [barF, bI, c_1, Int32.not_lt.mpr c_1]) ?_
    refine lv_istore (lv' := [(4, .int (bI (barF (σ.2.1 11) a p2 o 0))), (0, .ref M), (1, .int (nI a)), (2, .int p2), (3, .int o)]) hx hb dX7_isBarred_32 hl (by decide) rfl (fun ls hl => ?_)
    refine lv_iconst (v := 0) hx hb dX7_isBarred_34 (by decide) ?_
    refine lv_istore (lv' := [(5, .int 0), (4, .int (bI (barF (σ.2.1 11) a p2 o 0))), (0, .ref M), (1, .int (nI a)), (2, .int p2), (3, .int o)]) hx hb dX7_isBarred_35 hl (by decide) rfl (fun ls hl => ?_)
    refine w_loopR (fun (i : Nat) ls => i ≤ 16 ∧ lv_has ls 7 [(0, .ref M), (1, .int (nI a)), (2, .int p2), (3, .int o), (4, .int (bI (barF (σ.2.1 11) a p2 o i))), (5, .int (nI i))]) (fun (i : Nat) => 16 - i) ?_ 0 ⟨Nat.zero_le _, lv_sub hl [2, 3, 4, 5, 1, 0] rfl⟩
    intro i ls h9 ih
    obtain ⟨hi, hl⟩ := h9
    refine lv_iload hx hb dX7_isBarred_37 (lv_at hl 5 rfl) ?_
    refine lv_bipush (v := 16) hx hb dX7_isBarred_39 (by decide) ?_
    refine lv_icmp_ge (tgt := 97) hx hb dX7_isBarred_41 (by decide) (fun c_2 => ?_) (fun c_2 => ?_)
    · have n_2 : 16 ≤ i := (nI_leI (a := 16) (b := i) (by omega) (by omega)).mp c_2
      refine lv_iload hx hb dX7_isBarred_97 (lv_at hl 4 rfl) ?_
      exact xr_zret hx hb hr hlocks (by rw [show 16 = i by omega]) dX7_isBarred_99
    · have n_2 : i < 16 := Nat.not_le.mp (fun q => c_2 ((nI_leI (a := 16) (b := i) (by omega) (by omega)).mpr q))
      refine lv_aload_n hx hb dX7_isBarred_44 rfl (lv_at hl 0 rfl) ?_
      refine m_get (v := .ref (ad 11)) hx hb hts h7 hown hK hM 11 (by decide) (hts (.fieldLink RX7 37 "ConfigBeaconModel" "locks" "[I") (by decide +kernel)) rfl dX7_isBarred_45 ?_
      refine lv_iload_n hx hb dX7_isBarred_48 rfl (lv_at hl 1 rfl) ?_
      refine lv_iload hx hb dX7_isBarred_49 (lv_at hl 5 rfl) ?_
      refine xr_call (va_runS (As := [.int (nI a), .int (nI i)]) (rest := [.ref (ad 11)]) ⟨hx, hb, hml, hown, hts⟩ (c_X7_cell l D cA a i) (va_cwS 2 hts gX7_isBarred_X7_cell rfl rfl rfl (by decide +kernel) ⟨Nat.le_of_ble_eq_true rfl, Nat.le_of_ble_eq_true rfl⟩) (xPS hK trivial) rfl rfl hl.1 rfl (lv_room (Nat.le_of_ble_eq_true rfl)) dX7_isBarred_51 ⟨Nat.le_of_ble_eq_true rfl, Nat.le_of_ble_eq_true rfl⟩) ?_
      refine m_ald hx hb hK hM 11 (by decide) (n := 136) rfl (16 * a + i) rfl (by omega) (by decide) dX7_isBarred_54 (v := (σ.2.1 11 (16 * a + i))) rfl ?_
      refine lv_istore (lv' := [(6, .int (σ.2.1 11 (16 * a + i))), (0, .ref M), (1, .int (nI a)), (2, .int p2), (3, .int o), (4, .int (bI (barF (σ.2.1 11) a p2 o i))), (5, .int (nI i))]) hx hb dX7_isBarred_55 hl (by decide) rfl (fun ls hl => ?_)
      refine lv_iload hx hb dX7_isBarred_57 (lv_at hl 5 rfl) ?_
      refine xb_ne (tgt := 84) hx hb dX7_isBarred_59 (by decide) (fun c_3 => ?_) (fun c_3 => ?_)
      · refine lv_iconst (v := 1) hx hb dX7_isBarred_84 (by decide) ?_
        refine lv_goto (tgt := 89) hx hb dX7_isBarred_85 (by decide) ?_
        refine xe_top (show (1 : Int32) = bI (barF (σ.2.1 11) a p2 o (i + 1)) from by simp [barF, bI, c_1, Int32.not_lt.mpr c_1, c_2, n_2, Int32.not_le.mp c_2, c_3]) ?_
        refine lv_istore (lv' := [(4, .int (bI (barF (σ.2.1 11) a p2 o (i + 1)))), (6, .int (σ.2.1 11 (16 * a + i))), (0, .ref M), (1, .int (nI a)), (2, .int p2), (3, .int o), (5, .int (nI i))]) hx hb dX7_isBarred_89 hl (by decide) rfl (fun ls hl => ?_)
        refine lv_iinc (v := (nI (i + 1))) (lv' := [(5, .int (nI (i + 1))), (4, .int (bI (barF (σ.2.1 11) a p2 o (i + 1)))), (6, .int (σ.2.1 11 (16 * a + i))), (0, .ref M), (1, .int (nI a)), (2, .int p2), (3, .int o)]) hx hb dX7_isBarred_91 hl (k := 6) rfl (ni_inc i) (by decide) rfl (fun ls hl => ?_)
        refine lv_goto (tgt := 37) hx hb dX7_isBarred_94 (by decide) ?_
        exact ih (i + 1) _ ⟨(by omega), lv_sub hl [3, 4, 5, 6, 1, 0] rfl⟩ (by omega)
      · refine lv_iload hx hb dX7_isBarred_62 (lv_at hl 0 rfl) ?_
        refine lv_if_le (tgt := 88) hx hb dX7_isBarred_64 (by decide) (fun c_4 => ?_) (fun c_4 => ?_)
        · refine lv_iconst (v := 0) hx hb dX7_isBarred_88 (by decide) ?_
          refine xe_top (show (0 : Int32) = bI (barF (σ.2.1 11) a p2 o (i + 1)) from by simp [barF, bI, c_1, Int32.not_lt.mpr c_1, c_2, n_2, Int32.not_le.mp c_2, c_3, c_4, Int32.not_lt.mpr c_4]) ?_
          refine lv_istore (lv' := [(4, .int (bI (barF (σ.2.1 11) a p2 o (i + 1)))), (6, .int (σ.2.1 11 (16 * a + i))), (0, .ref M), (1, .int (nI a)), (2, .int p2), (3, .int o), (5, .int (nI i))]) hx hb dX7_isBarred_89 hl (by decide) rfl (fun ls hl => ?_)
          refine lv_iinc (v := (nI (i + 1))) (lv' := [(5, .int (nI (i + 1))), (4, .int (bI (barF (σ.2.1 11) a p2 o (i + 1)))), (6, .int (σ.2.1 11 (16 * a + i))), (0, .ref M), (1, .int (nI a)), (2, .int p2), (3, .int o)]) hx hb dX7_isBarred_91 hl (k := 6) rfl (ni_inc i) (by decide) rfl (fun ls hl => ?_)
          refine lv_goto (tgt := 37) hx hb dX7_isBarred_94 (by decide) ?_
          exact ih (i + 1) _ ⟨(by omega), lv_sub hl [3, 4, 5, 6, 1, 0] rfl⟩ (by omega)
        · refine lv_iload hx hb dX7_isBarred_67 (lv_at hl 0 rfl) ?_
          refine lv_iload_n hx hb dX7_isBarred_69 rfl (lv_at hl 4 rfl) ?_
          refine lv_icmp_eq (tgt := 88) hx hb dX7_isBarred_70 (by decide) (fun c_5 => ?_) (fun c_5 => ?_)
          · refine lv_iconst (v := 0) hx hb dX7_isBarred_88 (by decide) ?_
            refine xe_top (show (0 : Int32) = bI (barF (σ.2.1 11) a p2 o (i + 1)) from by simp [barF, bI, c_1, Int32.not_lt.mpr c_1, c_2, n_2, Int32.not_le.mp c_2, c_3, c_4, Int32.not_le.mp c_4, c_5]) ?_
            refine lv_istore (lv' := [(4, .int (bI (barF (σ.2.1 11) a p2 o (i + 1)))), (6, .int (σ.2.1 11 (16 * a + i))), (0, .ref M), (1, .int (nI a)), (2, .int p2), (3, .int o), (5, .int (nI i))]) hx hb dX7_isBarred_89 hl (by decide) rfl (fun ls hl => ?_)
            refine lv_iinc (v := (nI (i + 1))) (lv' := [(5, .int (nI (i + 1))), (4, .int (bI (barF (σ.2.1 11) a p2 o (i + 1)))), (6, .int (σ.2.1 11 (16 * a + i))), (0, .ref M), (1, .int (nI a)), (2, .int p2), (3, .int o)]) hx hb dX7_isBarred_91 hl (k := 6) rfl (ni_inc i) (by decide) rfl (fun ls hl => ?_)
            refine lv_goto (tgt := 37) hx hb dX7_isBarred_94 (by decide) ?_
            exact ih (i + 1) _ ⟨(by omega), lv_sub hl [3, 4, 5, 6, 1, 0] rfl⟩ (by omega)
          · refine lv_iload_n hx hb dX7_isBarred_73 rfl (lv_at hl 3 rfl) ?_
            refine lv_iconst (v := (-1)) hx hb dX7_isBarred_74 (by decide) ?_
            refine lv_icmp_eq (tgt := 84) hx hb dX7_isBarred_75 (by decide) (fun c_6 => ?_) (fun c_6 => ?_)
            · refine lv_iconst (v := 1) hx hb dX7_isBarred_84 (by decide) ?_
              refine lv_goto (tgt := 89) hx hb dX7_isBarred_85 (by decide) ?_
              refine xe_top (show (1 : Int32) = bI (barF (σ.2.1 11) a p2 o (i + 1)) from by simp [barF, bI, c_1, Int32.not_lt.mpr c_1, c_2, n_2, Int32.not_le.mp c_2, c_3, c_4, Int32.not_le.mp c_4, c_5, c_6]) ?_
              refine lv_istore (lv' := [(4, .int (bI (barF (σ.2.1 11) a p2 o (i + 1)))), (6, .int (σ.2.1 11 (16 * a + i))), (0, .ref M), (1, .int (nI a)), (2, .int p2), (3, .int o), (5, .int (nI i))]) hx hb dX7_isBarred_89 hl (by decide) rfl (fun ls hl => ?_)
              refine lv_iinc (v := (nI (i + 1))) (lv' := [(5, .int (nI (i + 1))), (4, .int (bI (barF (σ.2.1 11) a p2 o (i + 1)))), (6, .int (σ.2.1 11 (16 * a + i))), (0, .ref M), (1, .int (nI a)), (2, .int p2), (3, .int o)]) hx hb dX7_isBarred_91 hl (k := 6) rfl (ni_inc i) (by decide) rfl (fun ls hl => ?_)
              refine lv_goto (tgt := 37) hx hb dX7_isBarred_94 (by decide) ?_
              exact ih (i + 1) _ ⟨(by omega), lv_sub hl [3, 4, 5, 6, 1, 0] rfl⟩ (by omega)
            · refine lv_iload_n hx hb dX7_isBarred_78 rfl (lv_at hl 3 rfl) ?_
              refine lv_iload hx hb dX7_isBarred_79 (lv_at hl 6 rfl) ?_
              refine lv_icmp_ne (tgt := 88) hx hb dX7_isBarred_81 (by decide) (fun c_7 => ?_) (fun c_7 => ?_)
              · refine lv_iconst (v := 0) hx hb dX7_isBarred_88 (by decide) ?_
                refine xe_top (show (0 : Int32) = bI (barF (σ.2.1 11) a p2 o (i + 1)) from by simp [barF, bI, c_1, Int32.not_lt.mpr c_1, c_2, n_2, Int32.not_le.mp c_2, c_3, c_4, Int32.not_le.mp c_4, c_5, c_6, c_7]) ?_
                refine lv_istore (lv' := [(4, .int (bI (barF (σ.2.1 11) a p2 o (i + 1)))), (6, .int (σ.2.1 11 (16 * a + i))), (0, .ref M), (1, .int (nI a)), (2, .int p2), (3, .int o), (5, .int (nI i))]) hx hb dX7_isBarred_89 hl (by decide) rfl (fun ls hl => ?_)
                refine lv_iinc (v := (nI (i + 1))) (lv' := [(5, .int (nI (i + 1))), (4, .int (bI (barF (σ.2.1 11) a p2 o (i + 1)))), (6, .int (σ.2.1 11 (16 * a + i))), (0, .ref M), (1, .int (nI a)), (2, .int p2), (3, .int o)]) hx hb dX7_isBarred_91 hl (k := 6) rfl (ni_inc i) (by decide) rfl (fun ls hl => ?_)
                refine lv_goto (tgt := 37) hx hb dX7_isBarred_94 (by decide) ?_
                exact ih (i + 1) _ ⟨(by omega), lv_sub hl [3, 4, 5, 6, 1, 0] rfl⟩ (by omega)
              · refine lv_iconst (v := 1) hx hb dX7_isBarred_84 (by decide) ?_
                refine lv_goto (tgt := 89) hx hb dX7_isBarred_85 (by decide) ?_
                refine xe_top (show (1 : Int32) = bI (barF (σ.2.1 11) a p2 o (i + 1)) from by simp [barF, bI, c_1, Int32.not_lt.mpr c_1, c_2, n_2, Int32.not_le.mp c_2, c_3, c_4, Int32.not_le.mp c_4, c_5, c_6, c_7]) ?_
                refine lv_istore (lv' := [(4, .int (bI (barF (σ.2.1 11) a p2 o (i + 1)))), (6, .int (σ.2.1 11 (16 * a + i))), (0, .ref M), (1, .int (nI a)), (2, .int p2), (3, .int o), (5, .int (nI i))]) hx hb dX7_isBarred_89 hl (by decide) rfl (fun ls hl => ?_)
                refine lv_iinc (v := (nI (i + 1))) (lv' := [(5, .int (nI (i + 1))), (4, .int (bI (barF (σ.2.1 11) a p2 o (i + 1)))), (6, .int (σ.2.1 11 (16 * a + i))), (0, .ref M), (1, .int (nI a)), (2, .int p2), (3, .int o)]) hx hb dX7_isBarred_91 hl (k := 6) rfl (ni_inc i) (by decide) rfl (fun ls hl => ?_)
                refine lv_goto (tgt := 37) hx hb dX7_isBarred_94 (by decide) ?_
                exact ih (i + 1) _ ⟨(by omega), lv_sub hl [3, 4, 5, 6, 1, 0] rfl⟩ (by omega)
  · refine lv_aload_n hx hb dX7_isBarred_13 rfl (lv_at hl 0 rfl) ?_
    refine m_get (v := .ref (ad 11)) hx hb hts h7 hown hK hM 11 (by decide) (hts (.fieldLink RX7 37 "ConfigBeaconModel" "locks" "[I") (by decide +kernel)) rfl dX7_isBarred_14 ?_
    refine lv_sipush (v := 128) hx hb dX7_isBarred_17 (by decide) ?_
    refine lv_iload_n hx hb dX7_isBarred_20 rfl (lv_at hl 1 rfl) ?_
    refine xe_iadd hx hb (nI_add 128 a) dX7_isBarred_21 ?_
    refine m_ald hx hb hK hM 11 (by decide) (n := 136) rfl (128 + a) rfl (by omega) (by decide) dX7_isBarred_22 (v := (σ.2.1 11 (128 + a))) rfl ?_
    refine lv_iload_n hx hb dX7_isBarred_23 rfl (lv_at hl 3 rfl) ?_
    refine lv_icmp_eq (tgt := 31) hx hb dX7_isBarred_24 (by decide) (fun c_8 => ?_) (fun c_8 => ?_)
    · refine lv_iconst (v := 0) hx hb dX7_isBarred_31 (by decide) ?_
      refine xe_top (show (0 : Int32) = bI (barF (σ.2.1 11) a p2 o 0) from by simp [barF, bI, c_1, Int32.not_le.mp c_1, c_8]) ?_
      refine lv_istore (lv' := [(4, .int (bI (barF (σ.2.1 11) a p2 o 0))), (0, .ref M), (1, .int (nI a)), (2, .int p2), (3, .int o)]) hx hb dX7_isBarred_32 hl (by decide) rfl (fun ls hl => ?_)
      refine lv_iconst (v := 0) hx hb dX7_isBarred_34 (by decide) ?_
      refine lv_istore (lv' := [(5, .int 0), (4, .int (bI (barF (σ.2.1 11) a p2 o 0))), (0, .ref M), (1, .int (nI a)), (2, .int p2), (3, .int o)]) hx hb dX7_isBarred_35 hl (by decide) rfl (fun ls hl => ?_)
      refine w_loopR (fun (i : Nat) ls => i ≤ 16 ∧ lv_has ls 7 [(0, .ref M), (1, .int (nI a)), (2, .int p2), (3, .int o), (4, .int (bI (barF (σ.2.1 11) a p2 o i))), (5, .int (nI i))]) (fun (i : Nat) => 16 - i) ?_ 0 ⟨Nat.zero_le _, lv_sub hl [2, 3, 4, 5, 1, 0] rfl⟩
      intro i ls h9 ih
      obtain ⟨hi, hl⟩ := h9
      refine lv_iload hx hb dX7_isBarred_37 (lv_at hl 5 rfl) ?_
      refine lv_bipush (v := 16) hx hb dX7_isBarred_39 (by decide) ?_
      refine lv_icmp_ge (tgt := 97) hx hb dX7_isBarred_41 (by decide) (fun c_9 => ?_) (fun c_9 => ?_)
      · have n_9 : 16 ≤ i := (nI_leI (a := 16) (b := i) (by omega) (by omega)).mp c_9
        refine lv_iload hx hb dX7_isBarred_97 (lv_at hl 4 rfl) ?_
        exact xr_zret hx hb hr hlocks (by rw [show 16 = i by omega]) dX7_isBarred_99
      · have n_9 : i < 16 := Nat.not_le.mp (fun q => c_9 ((nI_leI (a := 16) (b := i) (by omega) (by omega)).mpr q))
        refine lv_aload_n hx hb dX7_isBarred_44 rfl (lv_at hl 0 rfl) ?_
        refine m_get (v := .ref (ad 11)) hx hb hts h7 hown hK hM 11 (by decide) (hts (.fieldLink RX7 37 "ConfigBeaconModel" "locks" "[I") (by decide +kernel)) rfl dX7_isBarred_45 ?_
        refine lv_iload_n hx hb dX7_isBarred_48 rfl (lv_at hl 1 rfl) ?_
        refine lv_iload hx hb dX7_isBarred_49 (lv_at hl 5 rfl) ?_
        refine xr_call (va_runS (As := [.int (nI a), .int (nI i)]) (rest := [.ref (ad 11)]) ⟨hx, hb, hml, hown, hts⟩ (c_X7_cell l D cA a i) (va_cwS 2 hts gX7_isBarred_X7_cell rfl rfl rfl (by decide +kernel) ⟨Nat.le_of_ble_eq_true rfl, Nat.le_of_ble_eq_true rfl⟩) (xPS hK trivial) rfl rfl hl.1 rfl (lv_room (Nat.le_of_ble_eq_true rfl)) dX7_isBarred_51 ⟨Nat.le_of_ble_eq_true rfl, Nat.le_of_ble_eq_true rfl⟩) ?_
        refine m_ald hx hb hK hM 11 (by decide) (n := 136) rfl (16 * a + i) rfl (by omega) (by decide) dX7_isBarred_54 (v := (σ.2.1 11 (16 * a + i))) rfl ?_
        refine lv_istore (lv' := [(6, .int (σ.2.1 11 (16 * a + i))), (0, .ref M), (1, .int (nI a)), (2, .int p2), (3, .int o), (4, .int (bI (barF (σ.2.1 11) a p2 o i))), (5, .int (nI i))]) hx hb dX7_isBarred_55 hl (by decide) rfl (fun ls hl => ?_)
        refine lv_iload hx hb dX7_isBarred_57 (lv_at hl 5 rfl) ?_
        refine xb_ne (tgt := 84) hx hb dX7_isBarred_59 (by decide) (fun c_10 => ?_) (fun c_10 => ?_)
        · refine lv_iconst (v := 1) hx hb dX7_isBarred_84 (by decide) ?_
          refine lv_goto (tgt := 89) hx hb dX7_isBarred_85 (by decide) ?_
          refine xe_top (show (1 : Int32) = bI (barF (σ.2.1 11) a p2 o (i + 1)) from by simp [barF, bI, c_1, Int32.not_le.mp c_1, c_8, c_9, n_9, Int32.not_le.mp c_9, c_10]) ?_
          refine lv_istore (lv' := [(4, .int (bI (barF (σ.2.1 11) a p2 o (i + 1)))), (6, .int (σ.2.1 11 (16 * a + i))), (0, .ref M), (1, .int (nI a)), (2, .int p2), (3, .int o), (5, .int (nI i))]) hx hb dX7_isBarred_89 hl (by decide) rfl (fun ls hl => ?_)
          refine lv_iinc (v := (nI (i + 1))) (lv' := [(5, .int (nI (i + 1))), (4, .int (bI (barF (σ.2.1 11) a p2 o (i + 1)))), (6, .int (σ.2.1 11 (16 * a + i))), (0, .ref M), (1, .int (nI a)), (2, .int p2), (3, .int o)]) hx hb dX7_isBarred_91 hl (k := 6) rfl (ni_inc i) (by decide) rfl (fun ls hl => ?_)
          refine lv_goto (tgt := 37) hx hb dX7_isBarred_94 (by decide) ?_
          exact ih (i + 1) _ ⟨(by omega), lv_sub hl [3, 4, 5, 6, 1, 0] rfl⟩ (by omega)
        · refine lv_iload hx hb dX7_isBarred_62 (lv_at hl 0 rfl) ?_
          refine lv_if_le (tgt := 88) hx hb dX7_isBarred_64 (by decide) (fun c_11 => ?_) (fun c_11 => ?_)
          · refine lv_iconst (v := 0) hx hb dX7_isBarred_88 (by decide) ?_
            refine xe_top (show (0 : Int32) = bI (barF (σ.2.1 11) a p2 o (i + 1)) from by simp [barF, bI, c_1, Int32.not_le.mp c_1, c_8, c_9, n_9, Int32.not_le.mp c_9, c_10, c_11, Int32.not_lt.mpr c_11]) ?_
            refine lv_istore (lv' := [(4, .int (bI (barF (σ.2.1 11) a p2 o (i + 1)))), (6, .int (σ.2.1 11 (16 * a + i))), (0, .ref M), (1, .int (nI a)), (2, .int p2), (3, .int o), (5, .int (nI i))]) hx hb dX7_isBarred_89 hl (by decide) rfl (fun ls hl => ?_)
            refine lv_iinc (v := (nI (i + 1))) (lv' := [(5, .int (nI (i + 1))), (4, .int (bI (barF (σ.2.1 11) a p2 o (i + 1)))), (6, .int (σ.2.1 11 (16 * a + i))), (0, .ref M), (1, .int (nI a)), (2, .int p2), (3, .int o)]) hx hb dX7_isBarred_91 hl (k := 6) rfl (ni_inc i) (by decide) rfl (fun ls hl => ?_)
            refine lv_goto (tgt := 37) hx hb dX7_isBarred_94 (by decide) ?_
            exact ih (i + 1) _ ⟨(by omega), lv_sub hl [3, 4, 5, 6, 1, 0] rfl⟩ (by omega)
          · refine lv_iload hx hb dX7_isBarred_67 (lv_at hl 0 rfl) ?_
            refine lv_iload_n hx hb dX7_isBarred_69 rfl (lv_at hl 4 rfl) ?_
            refine lv_icmp_eq (tgt := 88) hx hb dX7_isBarred_70 (by decide) (fun c_12 => ?_) (fun c_12 => ?_)
            · refine lv_iconst (v := 0) hx hb dX7_isBarred_88 (by decide) ?_
              refine xe_top (show (0 : Int32) = bI (barF (σ.2.1 11) a p2 o (i + 1)) from by simp [barF, bI, c_1, Int32.not_le.mp c_1, c_8, c_9, n_9, Int32.not_le.mp c_9, c_10, c_11, Int32.not_le.mp c_11, c_12]) ?_
              refine lv_istore (lv' := [(4, .int (bI (barF (σ.2.1 11) a p2 o (i + 1)))), (6, .int (σ.2.1 11 (16 * a + i))), (0, .ref M), (1, .int (nI a)), (2, .int p2), (3, .int o), (5, .int (nI i))]) hx hb dX7_isBarred_89 hl (by decide) rfl (fun ls hl => ?_)
              refine lv_iinc (v := (nI (i + 1))) (lv' := [(5, .int (nI (i + 1))), (4, .int (bI (barF (σ.2.1 11) a p2 o (i + 1)))), (6, .int (σ.2.1 11 (16 * a + i))), (0, .ref M), (1, .int (nI a)), (2, .int p2), (3, .int o)]) hx hb dX7_isBarred_91 hl (k := 6) rfl (ni_inc i) (by decide) rfl (fun ls hl => ?_)
              refine lv_goto (tgt := 37) hx hb dX7_isBarred_94 (by decide) ?_
              exact ih (i + 1) _ ⟨(by omega), lv_sub hl [3, 4, 5, 6, 1, 0] rfl⟩ (by omega)
            · refine lv_iload_n hx hb dX7_isBarred_73 rfl (lv_at hl 3 rfl) ?_
              refine lv_iconst (v := (-1)) hx hb dX7_isBarred_74 (by decide) ?_
              refine lv_icmp_eq (tgt := 84) hx hb dX7_isBarred_75 (by decide) (fun c_13 => ?_) (fun c_13 => ?_)
              · refine lv_iconst (v := 1) hx hb dX7_isBarred_84 (by decide) ?_
                refine lv_goto (tgt := 89) hx hb dX7_isBarred_85 (by decide) ?_
                refine xe_top (show (1 : Int32) = bI (barF (σ.2.1 11) a p2 o (i + 1)) from by simp [barF, bI, c_1, Int32.not_le.mp c_1, c_8, c_9, n_9, Int32.not_le.mp c_9, c_10, c_11, Int32.not_le.mp c_11, c_12, c_13]) ?_
                refine lv_istore (lv' := [(4, .int (bI (barF (σ.2.1 11) a p2 o (i + 1)))), (6, .int (σ.2.1 11 (16 * a + i))), (0, .ref M), (1, .int (nI a)), (2, .int p2), (3, .int o), (5, .int (nI i))]) hx hb dX7_isBarred_89 hl (by decide) rfl (fun ls hl => ?_)
                refine lv_iinc (v := (nI (i + 1))) (lv' := [(5, .int (nI (i + 1))), (4, .int (bI (barF (σ.2.1 11) a p2 o (i + 1)))), (6, .int (σ.2.1 11 (16 * a + i))), (0, .ref M), (1, .int (nI a)), (2, .int p2), (3, .int o)]) hx hb dX7_isBarred_91 hl (k := 6) rfl (ni_inc i) (by decide) rfl (fun ls hl => ?_)
                refine lv_goto (tgt := 37) hx hb dX7_isBarred_94 (by decide) ?_
                exact ih (i + 1) _ ⟨(by omega), lv_sub hl [3, 4, 5, 6, 1, 0] rfl⟩ (by omega)
              · refine lv_iload_n hx hb dX7_isBarred_78 rfl (lv_at hl 3 rfl) ?_
                refine lv_iload hx hb dX7_isBarred_79 (lv_at hl 6 rfl) ?_
                refine lv_icmp_ne (tgt := 88) hx hb dX7_isBarred_81 (by decide) (fun c_14 => ?_) (fun c_14 => ?_)
                · refine lv_iconst (v := 0) hx hb dX7_isBarred_88 (by decide) ?_
                  refine xe_top (show (0 : Int32) = bI (barF (σ.2.1 11) a p2 o (i + 1)) from by simp [barF, bI, c_1, Int32.not_le.mp c_1, c_8, c_9, n_9, Int32.not_le.mp c_9, c_10, c_11, Int32.not_le.mp c_11, c_12, c_13, c_14]) ?_
                  refine lv_istore (lv' := [(4, .int (bI (barF (σ.2.1 11) a p2 o (i + 1)))), (6, .int (σ.2.1 11 (16 * a + i))), (0, .ref M), (1, .int (nI a)), (2, .int p2), (3, .int o), (5, .int (nI i))]) hx hb dX7_isBarred_89 hl (by decide) rfl (fun ls hl => ?_)
                  refine lv_iinc (v := (nI (i + 1))) (lv' := [(5, .int (nI (i + 1))), (4, .int (bI (barF (σ.2.1 11) a p2 o (i + 1)))), (6, .int (σ.2.1 11 (16 * a + i))), (0, .ref M), (1, .int (nI a)), (2, .int p2), (3, .int o)]) hx hb dX7_isBarred_91 hl (k := 6) rfl (ni_inc i) (by decide) rfl (fun ls hl => ?_)
                  refine lv_goto (tgt := 37) hx hb dX7_isBarred_94 (by decide) ?_
                  exact ih (i + 1) _ ⟨(by omega), lv_sub hl [3, 4, 5, 6, 1, 0] rfl⟩ (by omega)
                · refine lv_iconst (v := 1) hx hb dX7_isBarred_84 (by decide) ?_
                  refine lv_goto (tgt := 89) hx hb dX7_isBarred_85 (by decide) ?_
                  refine xe_top (show (1 : Int32) = bI (barF (σ.2.1 11) a p2 o (i + 1)) from by simp [barF, bI, c_1, Int32.not_le.mp c_1, c_8, c_9, n_9, Int32.not_le.mp c_9, c_10, c_11, Int32.not_le.mp c_11, c_12, c_13, c_14]) ?_
                  refine lv_istore (lv' := [(4, .int (bI (barF (σ.2.1 11) a p2 o (i + 1)))), (6, .int (σ.2.1 11 (16 * a + i))), (0, .ref M), (1, .int (nI a)), (2, .int p2), (3, .int o), (5, .int (nI i))]) hx hb dX7_isBarred_89 hl (by decide) rfl (fun ls hl => ?_)
                  refine lv_iinc (v := (nI (i + 1))) (lv' := [(5, .int (nI (i + 1))), (4, .int (bI (barF (σ.2.1 11) a p2 o (i + 1)))), (6, .int (σ.2.1 11 (16 * a + i))), (0, .ref M), (1, .int (nI a)), (2, .int p2), (3, .int o)]) hx hb dX7_isBarred_91 hl (k := 6) rfl (ni_inc i) (by decide) rfl (fun ls hl => ?_)
                  refine lv_goto (tgt := 37) hx hb dX7_isBarred_94 (by decide) ?_
                  exact ih (i + 1) _ ⟨(by omega), lv_sub hl [3, 4, 5, 6, 1, 0] rfl⟩ (by omega)
    · refine lv_iconst (v := 1) hx hb dX7_isBarred_27 (by decide) ?_
      refine lv_goto (tgt := 32) hx hb dX7_isBarred_28 (by decide) ?_
      refine xe_top (show (1 : Int32) = bI (barF (σ.2.1 11) a p2 o 0) from by simp [barF, bI, c_1, Int32.not_le.mp c_1, c_8]) ?_
      refine lv_istore (lv' := [(4, .int (bI (barF (σ.2.1 11) a p2 o 0))), (0, .ref M), (1, .int (nI a)), (2, .int p2), (3, .int o)]) hx hb dX7_isBarred_32 hl (by decide) rfl (fun ls hl => ?_)
      refine lv_iconst (v := 0) hx hb dX7_isBarred_34 (by decide) ?_
      refine lv_istore (lv' := [(5, .int 0), (4, .int (bI (barF (σ.2.1 11) a p2 o 0))), (0, .ref M), (1, .int (nI a)), (2, .int p2), (3, .int o)]) hx hb dX7_isBarred_35 hl (by decide) rfl (fun ls hl => ?_)
      refine w_loopR (fun (i : Nat) ls => i ≤ 16 ∧ lv_has ls 7 [(0, .ref M), (1, .int (nI a)), (2, .int p2), (3, .int o), (4, .int (bI (barF (σ.2.1 11) a p2 o i))), (5, .int (nI i))]) (fun (i : Nat) => 16 - i) ?_ 0 ⟨Nat.zero_le _, lv_sub hl [2, 3, 4, 5, 1, 0] rfl⟩
      intro i ls h9 ih
      obtain ⟨hi, hl⟩ := h9
      refine lv_iload hx hb dX7_isBarred_37 (lv_at hl 5 rfl) ?_
      refine lv_bipush (v := 16) hx hb dX7_isBarred_39 (by decide) ?_
      refine lv_icmp_ge (tgt := 97) hx hb dX7_isBarred_41 (by decide) (fun c_15 => ?_) (fun c_15 => ?_)
      · have n_15 : 16 ≤ i := (nI_leI (a := 16) (b := i) (by omega) (by omega)).mp c_15
        refine lv_iload hx hb dX7_isBarred_97 (lv_at hl 4 rfl) ?_
        exact xr_zret hx hb hr hlocks (by rw [show 16 = i by omega]) dX7_isBarred_99
      · have n_15 : i < 16 := Nat.not_le.mp (fun q => c_15 ((nI_leI (a := 16) (b := i) (by omega) (by omega)).mpr q))
        refine lv_aload_n hx hb dX7_isBarred_44 rfl (lv_at hl 0 rfl) ?_
        refine m_get (v := .ref (ad 11)) hx hb hts h7 hown hK hM 11 (by decide) (hts (.fieldLink RX7 37 "ConfigBeaconModel" "locks" "[I") (by decide +kernel)) rfl dX7_isBarred_45 ?_
        refine lv_iload_n hx hb dX7_isBarred_48 rfl (lv_at hl 1 rfl) ?_
        refine lv_iload hx hb dX7_isBarred_49 (lv_at hl 5 rfl) ?_
        refine xr_call (va_runS (As := [.int (nI a), .int (nI i)]) (rest := [.ref (ad 11)]) ⟨hx, hb, hml, hown, hts⟩ (c_X7_cell l D cA a i) (va_cwS 2 hts gX7_isBarred_X7_cell rfl rfl rfl (by decide +kernel) ⟨Nat.le_of_ble_eq_true rfl, Nat.le_of_ble_eq_true rfl⟩) (xPS hK trivial) rfl rfl hl.1 rfl (lv_room (Nat.le_of_ble_eq_true rfl)) dX7_isBarred_51 ⟨Nat.le_of_ble_eq_true rfl, Nat.le_of_ble_eq_true rfl⟩) ?_
        refine m_ald hx hb hK hM 11 (by decide) (n := 136) rfl (16 * a + i) rfl (by omega) (by decide) dX7_isBarred_54 (v := (σ.2.1 11 (16 * a + i))) rfl ?_
        refine lv_istore (lv' := [(6, .int (σ.2.1 11 (16 * a + i))), (0, .ref M), (1, .int (nI a)), (2, .int p2), (3, .int o), (4, .int (bI (barF (σ.2.1 11) a p2 o i))), (5, .int (nI i))]) hx hb dX7_isBarred_55 hl (by decide) rfl (fun ls hl => ?_)
        refine lv_iload hx hb dX7_isBarred_57 (lv_at hl 5 rfl) ?_
        refine xb_ne (tgt := 84) hx hb dX7_isBarred_59 (by decide) (fun c_16 => ?_) (fun c_16 => ?_)
        · refine lv_iconst (v := 1) hx hb dX7_isBarred_84 (by decide) ?_
          refine lv_goto (tgt := 89) hx hb dX7_isBarred_85 (by decide) ?_
          refine xe_top (show (1 : Int32) = bI (barF (σ.2.1 11) a p2 o (i + 1)) from by simp [barF, bI, c_1, Int32.not_le.mp c_1, c_8, c_15, n_15, Int32.not_le.mp c_15, c_16]) ?_
          refine lv_istore (lv' := [(4, .int (bI (barF (σ.2.1 11) a p2 o (i + 1)))), (6, .int (σ.2.1 11 (16 * a + i))), (0, .ref M), (1, .int (nI a)), (2, .int p2), (3, .int o), (5, .int (nI i))]) hx hb dX7_isBarred_89 hl (by decide) rfl (fun ls hl => ?_)
          refine lv_iinc (v := (nI (i + 1))) (lv' := [(5, .int (nI (i + 1))), (4, .int (bI (barF (σ.2.1 11) a p2 o (i + 1)))), (6, .int (σ.2.1 11 (16 * a + i))), (0, .ref M), (1, .int (nI a)), (2, .int p2), (3, .int o)]) hx hb dX7_isBarred_91 hl (k := 6) rfl (ni_inc i) (by decide) rfl (fun ls hl => ?_)
          refine lv_goto (tgt := 37) hx hb dX7_isBarred_94 (by decide) ?_
          exact ih (i + 1) _ ⟨(by omega), lv_sub hl [3, 4, 5, 6, 1, 0] rfl⟩ (by omega)
        · refine lv_iload hx hb dX7_isBarred_62 (lv_at hl 0 rfl) ?_
          refine lv_if_le (tgt := 88) hx hb dX7_isBarred_64 (by decide) (fun c_17 => ?_) (fun c_17 => ?_)
          · refine lv_iconst (v := 0) hx hb dX7_isBarred_88 (by decide) ?_
            refine xe_top (show (0 : Int32) = bI (barF (σ.2.1 11) a p2 o (i + 1)) from by simp [barF, bI, c_1, Int32.not_le.mp c_1, c_8, c_15, n_15, Int32.not_le.mp c_15, c_16, c_17, Int32.not_lt.mpr c_17]) ?_
            refine lv_istore (lv' := [(4, .int (bI (barF (σ.2.1 11) a p2 o (i + 1)))), (6, .int (σ.2.1 11 (16 * a + i))), (0, .ref M), (1, .int (nI a)), (2, .int p2), (3, .int o), (5, .int (nI i))]) hx hb dX7_isBarred_89 hl (by decide) rfl (fun ls hl => ?_)
            refine lv_iinc (v := (nI (i + 1))) (lv' := [(5, .int (nI (i + 1))), (4, .int (bI (barF (σ.2.1 11) a p2 o (i + 1)))), (6, .int (σ.2.1 11 (16 * a + i))), (0, .ref M), (1, .int (nI a)), (2, .int p2), (3, .int o)]) hx hb dX7_isBarred_91 hl (k := 6) rfl (ni_inc i) (by decide) rfl (fun ls hl => ?_)
            refine lv_goto (tgt := 37) hx hb dX7_isBarred_94 (by decide) ?_
            exact ih (i + 1) _ ⟨(by omega), lv_sub hl [3, 4, 5, 6, 1, 0] rfl⟩ (by omega)
          · refine lv_iload hx hb dX7_isBarred_67 (lv_at hl 0 rfl) ?_
            refine lv_iload_n hx hb dX7_isBarred_69 rfl (lv_at hl 4 rfl) ?_
            refine lv_icmp_eq (tgt := 88) hx hb dX7_isBarred_70 (by decide) (fun c_18 => ?_) (fun c_18 => ?_)
            · refine lv_iconst (v := 0) hx hb dX7_isBarred_88 (by decide) ?_
              refine xe_top (show (0 : Int32) = bI (barF (σ.2.1 11) a p2 o (i + 1)) from by simp [barF, bI, c_1, Int32.not_le.mp c_1, c_8, c_15, n_15, Int32.not_le.mp c_15, c_16, c_17, Int32.not_le.mp c_17, c_18]) ?_
              refine lv_istore (lv' := [(4, .int (bI (barF (σ.2.1 11) a p2 o (i + 1)))), (6, .int (σ.2.1 11 (16 * a + i))), (0, .ref M), (1, .int (nI a)), (2, .int p2), (3, .int o), (5, .int (nI i))]) hx hb dX7_isBarred_89 hl (by decide) rfl (fun ls hl => ?_)
              refine lv_iinc (v := (nI (i + 1))) (lv' := [(5, .int (nI (i + 1))), (4, .int (bI (barF (σ.2.1 11) a p2 o (i + 1)))), (6, .int (σ.2.1 11 (16 * a + i))), (0, .ref M), (1, .int (nI a)), (2, .int p2), (3, .int o)]) hx hb dX7_isBarred_91 hl (k := 6) rfl (ni_inc i) (by decide) rfl (fun ls hl => ?_)
              refine lv_goto (tgt := 37) hx hb dX7_isBarred_94 (by decide) ?_
              exact ih (i + 1) _ ⟨(by omega), lv_sub hl [3, 4, 5, 6, 1, 0] rfl⟩ (by omega)
            · refine lv_iload_n hx hb dX7_isBarred_73 rfl (lv_at hl 3 rfl) ?_
              refine lv_iconst (v := (-1)) hx hb dX7_isBarred_74 (by decide) ?_
              refine lv_icmp_eq (tgt := 84) hx hb dX7_isBarred_75 (by decide) (fun c_19 => ?_) (fun c_19 => ?_)
              · refine lv_iconst (v := 1) hx hb dX7_isBarred_84 (by decide) ?_
                refine lv_goto (tgt := 89) hx hb dX7_isBarred_85 (by decide) ?_
                refine xe_top (show (1 : Int32) = bI (barF (σ.2.1 11) a p2 o (i + 1)) from by simp [barF, bI, c_1, Int32.not_le.mp c_1, c_8, c_15, n_15, Int32.not_le.mp c_15, c_16, c_17, Int32.not_le.mp c_17, c_18, c_19]) ?_
                refine lv_istore (lv' := [(4, .int (bI (barF (σ.2.1 11) a p2 o (i + 1)))), (6, .int (σ.2.1 11 (16 * a + i))), (0, .ref M), (1, .int (nI a)), (2, .int p2), (3, .int o), (5, .int (nI i))]) hx hb dX7_isBarred_89 hl (by decide) rfl (fun ls hl => ?_)
                refine lv_iinc (v := (nI (i + 1))) (lv' := [(5, .int (nI (i + 1))), (4, .int (bI (barF (σ.2.1 11) a p2 o (i + 1)))), (6, .int (σ.2.1 11 (16 * a + i))), (0, .ref M), (1, .int (nI a)), (2, .int p2), (3, .int o)]) hx hb dX7_isBarred_91 hl (k := 6) rfl (ni_inc i) (by decide) rfl (fun ls hl => ?_)
                refine lv_goto (tgt := 37) hx hb dX7_isBarred_94 (by decide) ?_
                exact ih (i + 1) _ ⟨(by omega), lv_sub hl [3, 4, 5, 6, 1, 0] rfl⟩ (by omega)
              · refine lv_iload_n hx hb dX7_isBarred_78 rfl (lv_at hl 3 rfl) ?_
                refine lv_iload hx hb dX7_isBarred_79 (lv_at hl 6 rfl) ?_
                refine lv_icmp_ne (tgt := 88) hx hb dX7_isBarred_81 (by decide) (fun c_20 => ?_) (fun c_20 => ?_)
                · refine lv_iconst (v := 0) hx hb dX7_isBarred_88 (by decide) ?_
                  refine xe_top (show (0 : Int32) = bI (barF (σ.2.1 11) a p2 o (i + 1)) from by simp [barF, bI, c_1, Int32.not_le.mp c_1, c_8, c_15, n_15, Int32.not_le.mp c_15, c_16, c_17, Int32.not_le.mp c_17, c_18, c_19, c_20]) ?_
                  refine lv_istore (lv' := [(4, .int (bI (barF (σ.2.1 11) a p2 o (i + 1)))), (6, .int (σ.2.1 11 (16 * a + i))), (0, .ref M), (1, .int (nI a)), (2, .int p2), (3, .int o), (5, .int (nI i))]) hx hb dX7_isBarred_89 hl (by decide) rfl (fun ls hl => ?_)
                  refine lv_iinc (v := (nI (i + 1))) (lv' := [(5, .int (nI (i + 1))), (4, .int (bI (barF (σ.2.1 11) a p2 o (i + 1)))), (6, .int (σ.2.1 11 (16 * a + i))), (0, .ref M), (1, .int (nI a)), (2, .int p2), (3, .int o)]) hx hb dX7_isBarred_91 hl (k := 6) rfl (ni_inc i) (by decide) rfl (fun ls hl => ?_)
                  refine lv_goto (tgt := 37) hx hb dX7_isBarred_94 (by decide) ?_
                  exact ih (i + 1) _ ⟨(by omega), lv_sub hl [3, 4, 5, 6, 1, 0] rfl⟩ (by omega)
                · refine lv_iconst (v := 1) hx hb dX7_isBarred_84 (by decide) ?_
                  refine lv_goto (tgt := 89) hx hb dX7_isBarred_85 (by decide) ?_
                  refine xe_top (show (1 : Int32) = bI (barF (σ.2.1 11) a p2 o (i + 1)) from by simp [barF, bI, c_1, Int32.not_le.mp c_1, c_8, c_15, n_15, Int32.not_le.mp c_15, c_16, c_17, Int32.not_le.mp c_17, c_18, c_19, c_20]) ?_
                  refine lv_istore (lv' := [(4, .int (bI (barF (σ.2.1 11) a p2 o (i + 1)))), (6, .int (σ.2.1 11 (16 * a + i))), (0, .ref M), (1, .int (nI a)), (2, .int p2), (3, .int o), (5, .int (nI i))]) hx hb dX7_isBarred_89 hl (by decide) rfl (fun ls hl => ?_)
                  refine lv_iinc (v := (nI (i + 1))) (lv' := [(5, .int (nI (i + 1))), (4, .int (bI (barF (σ.2.1 11) a p2 o (i + 1)))), (6, .int (σ.2.1 11 (16 * a + i))), (0, .ref M), (1, .int (nI a)), (2, .int p2), (3, .int o)]) hx hb dX7_isBarred_91 hl (k := 6) rfl (ni_inc i) (by decide) rfl (fun ls hl => ?_)
                  refine lv_goto (tgt := 37) hx hb dX7_isBarred_94 (by decide) ?_
                  exact ih (i + 1) _ ⟨(by omega), lv_sub hl [3, 4, 5, 6, 1, 0] rfl⟩ (by omega)
set_option maxHeartbeats 4000000 in
set_option maxRecDepth 100000 in
theorem c_X7_wrongLock (l : Launch) (D : va_G) (cA : Nat → ClassId) (A : Nat → Prop) (M : Nat) (ad : Nat → Nat) (σ : MS) (p1 : Int32) (p2 : Int32) (o : Int32) (nL : Nat) (hL : σ.1 6 = nI nL) (hL2 : nL ≤ 8) : Met l yX7_wrongLock wsX7_wrongLock (rmK 2 0 0) (xP D cA [.ref M, .int p1, .int p2, .int o] (MR D cA A M ad σ)) (xR (some (.int (kLk nL p1 p2 o)))) 0 0 (fun _ => False) := by
  refine Met.ofW (cc := cX7_wrongLock) (maxL := 4) (ret := (some .int)) (by decide) rfl ?_
  intro p e s m args below meth c s₁ B hml hv
  obtain ⟨rfl, hK, hI⟩ := hv
  have hx := B.exec
  have hb := B.bytes
  have hr := B.returns
  have hts := atoms_spec (ws := wsX7_wrongLock) B.pre
  have hown : s.vm.findClass RX7 = some m.cls := findClass_of_methodNamed B.named
  have hlocks := B.notSynchronized
  have hl := lv_entry ([.ref M, .int p1, .int p2, .int o]) (n := 4) (Nat.le_of_ble_eq_true rfl)
  rw [lg_entry_eq]
  generalize (lg_sl ([.ref M, .int p1, .int p2, .int o]) ++ List.replicate (4 - (lg_sl ([.ref M, .int p1, .int p2, .int o])).length) Slot.unset).toArray = ls at hl ⊢
  have hl : lv_has ls 4 [(0, .ref M), (1, .int p1), (2, .int p2), (3, .int o)] := hl
  have hM : MR D cA A M ad σ s.heap := hI
  have h7 : ∀ w ∈ wsX70, w ∈ wsX7_wrongLock := fun _ h => List.mem_cons_of_mem _ (List.mem_append_right _ h)
  refine lv_aload_n hx hb dX7_wrongLock_0 rfl (lv_at hl 0 rfl) ?_
  refine lv_iload_n hx hb dX7_wrongLock_1 rfl (lv_at hl 1 rfl) ?_
  refine xr_call (va_runV (As := [.int p1]) (rest := []) ⟨hx, hb, hml, hown, hts⟩ (c_X7_isLayer l D cA A M ad σ p1 nL hL (by omega)) (cwV 1 hts gX7_wrongLock_X7_isLayer rfl rfl rfl (by decide +kernel) ⟨Nat.le_of_ble_eq_true rfl, Nat.le_of_ble_eq_true rfl⟩) (xPV hK hM.1 rfl hM) rfl rfl hl.1 rfl (lv_room (Nat.le_of_ble_eq_true rfl)) dX7_wrongLock_2 ⟨Nat.le_of_ble_eq_true rfl, Nat.le_of_ble_eq_true rfl⟩) ?_
  refine xb_eq (tgt := 20) hx hb dX7_wrongLock_5 (by decide) (fun c_1 => ?_) (fun c_1 => ?_)
  · refine lv_iconst (v := 1) hx hb dX7_wrongLock_20 (by decide) ?_
    refine lv_goto (tgt := 36) hx hb dX7_wrongLock_21 (by decide) ?_
    exact xr_iret hx hb hr hlocks (by first | (simp [kLk, c_1]; done) | (simp_all [kLk]; done) | (simp [kLk, c_1]; omega)) dX7_wrongLock_36
  · refine lv_iload_n hx hb dX7_wrongLock_8 rfl (lv_at hl 2 rfl) ?_
    refine lv_iconst (v := (-1)) hx hb dX7_wrongLock_9 (by decide) ?_
    refine lv_icmp_eq (tgt := 24) hx hb dX7_wrongLock_10 (by decide) (fun c_2 => ?_) (fun c_2 => ?_)
    · refine lv_iload_n hx hb dX7_wrongLock_24 rfl (lv_at hl 3 rfl) ?_
      refine xr_call (va_runS (As := [.int o]) (rest := []) ⟨hx, hb, hml, hown, hts⟩ (c_X7_isOwner l D cA o) (va_cwS 1 hts gX7_wrongLock_X7_isOwner rfl rfl rfl (by decide +kernel) ⟨Nat.le_of_ble_eq_true rfl, Nat.le_of_ble_eq_true rfl⟩) (xPS hK trivial) rfl rfl hl.1 rfl (lv_room (Nat.le_of_ble_eq_true rfl)) dX7_wrongLock_25 ⟨Nat.le_of_ble_eq_true rfl, Nat.le_of_ble_eq_true rfl⟩) ?_
      refine xb_ne (tgt := 35) hx hb dX7_wrongLock_28 (by decide) (fun c_3 => ?_) (fun c_3 => ?_)
      · refine lv_iconst (v := 0) hx hb dX7_wrongLock_35 (by decide) ?_
        exact xr_iret hx hb hr hlocks (by first | (simp [kLk, c_1, c_2, c_3]; done) | (simp_all [kLk]; done) | (simp [kLk, c_1, c_2, c_3]; omega)) dX7_wrongLock_36
      · refine lv_iconst (v := 2) hx hb dX7_wrongLock_31 (by decide) ?_
        refine lv_goto (tgt := 36) hx hb dX7_wrongLock_32 (by decide) ?_
        exact xr_iret hx hb hr hlocks (by first | (simp [kLk, c_1, c_2, c_3]; done) | (simp_all [kLk]; done) | (simp [kLk, c_1, c_2, c_3]; omega)) dX7_wrongLock_36
    · refine lv_iload_n hx hb dX7_wrongLock_13 rfl (lv_at hl 2 rfl) ?_
      refine xr_call (va_runS (As := [.int p2]) (rest := []) ⟨hx, hb, hml, hown, hts⟩ (c_X7_isSetting l D cA p2) (va_cwS 1 hts gX7_wrongLock_X7_isSetting rfl rfl rfl (by decide +kernel) ⟨Nat.le_of_ble_eq_true rfl, Nat.le_of_ble_eq_true rfl⟩) (xPS hK trivial) rfl rfl hl.1 rfl (lv_room (Nat.le_of_ble_eq_true rfl)) dX7_wrongLock_14 ⟨Nat.le_of_ble_eq_true rfl, Nat.le_of_ble_eq_true rfl⟩) ?_
      refine xb_ne (tgt := 24) hx hb dX7_wrongLock_17 (by decide) (fun c_4 => ?_) (fun c_4 => ?_)
      · refine lv_iload_n hx hb dX7_wrongLock_24 rfl (lv_at hl 3 rfl) ?_
        refine xr_call (va_runS (As := [.int o]) (rest := []) ⟨hx, hb, hml, hown, hts⟩ (c_X7_isOwner l D cA o) (va_cwS 1 hts gX7_wrongLock_X7_isOwner rfl rfl rfl (by decide +kernel) ⟨Nat.le_of_ble_eq_true rfl, Nat.le_of_ble_eq_true rfl⟩) (xPS hK trivial) rfl rfl hl.1 rfl (lv_room (Nat.le_of_ble_eq_true rfl)) dX7_wrongLock_25 ⟨Nat.le_of_ble_eq_true rfl, Nat.le_of_ble_eq_true rfl⟩) ?_
        refine xb_ne (tgt := 35) hx hb dX7_wrongLock_28 (by decide) (fun c_5 => ?_) (fun c_5 => ?_)
        · refine lv_iconst (v := 0) hx hb dX7_wrongLock_35 (by decide) ?_
          exact xr_iret hx hb hr hlocks (by first | (simp [kLk, c_1, c_2, c_4, c_5]; done) | (simp_all [kLk]; done) | (simp [kLk, c_1, c_2, c_4, c_5]; omega)) dX7_wrongLock_36
        · refine lv_iconst (v := 2) hx hb dX7_wrongLock_31 (by decide) ?_
          refine lv_goto (tgt := 36) hx hb dX7_wrongLock_32 (by decide) ?_
          exact xr_iret hx hb hr hlocks (by first | (simp [kLk, c_1, c_2, c_4, c_5]; done) | (simp_all [kLk]; done) | (simp [kLk, c_1, c_2, c_4, c_5]; omega)) dX7_wrongLock_36
      · refine lv_iconst (v := 1) hx hb dX7_wrongLock_20 (by decide) ?_
        refine lv_goto (tgt := 36) hx hb dX7_wrongLock_21 (by decide) ?_
        exact xr_iret hx hb hr hlocks (by first | (simp [kLk, c_1, c_2, c_4]; done) | (simp_all [kLk]; done) | (simp [kLk, c_1, c_2, c_4]; omega)) dX7_wrongLock_36
set_option maxHeartbeats 4000000 in
set_option maxRecDepth 100000 in
theorem c_X7_lock (l : Launch) (D : va_G) (cA : Nat → ClassId) (A : Nat → Prop) (M : Nat) (ad : Nat → Nat) (σ : MS) (p1 : Int32) (p2 : Int32) (o : Int32) (nL : Nat) (hL : σ.1 6 = nI nL) (hL2 : nL ≤ 8) : Met l yX7_lock wsX7_lock (rmK 3 0 0) (xP D cA [.ref M, .int p1, .int p2, .int o] (MR D cA A M ad σ)) (xW (mJ D cA A M ad σ (kLo σ nL p1 p2 o) (fun r τ => r = some (.int (nI (lksF ((sa σ 11 (lkA (ix p1) p2) o).2.1 11) o))) ∧ PE τ (sa σ 11 (lkA (ix p1) p2) o))) A) 0 0 A := by
  refine Met.ofW (cc := cX7_lock) (maxL := 4) (ret := (some .int)) (by decide) rfl ?_
  intro p e s m args below meth c s₁ B hml hv
  obtain ⟨rfl, hK, hI⟩ := hv
  have hx := B.exec
  have hb := B.bytes
  have hr := B.returns
  have hts := atoms_spec (ws := wsX7_lock) B.pre
  have hown : s.vm.findClass RX7 = some m.cls := findClass_of_methodNamed B.named
  have hlocks := B.notSynchronized
  have hl := lv_entry ([.ref M, .int p1, .int p2, .int o]) (n := 4) (Nat.le_of_ble_eq_true rfl)
  rw [lg_entry_eq]
  generalize (lg_sl ([.ref M, .int p1, .int p2, .int o]) ++ List.replicate (4 - (lg_sl ([.ref M, .int p1, .int p2, .int o])).length) Slot.unset).toArray = ls at hl ⊢
  have hl : lv_has ls 4 [(0, .ref M), (1, .int p1), (2, .int p2), (3, .int o)] := hl
  have hM : MR D cA A M ad σ s.heap := hI
  have h7 : ∀ w ∈ wsX70, w ∈ wsX7_lock := fun _ h => List.mem_cons_of_mem _ (List.mem_append_right _ h)
  have hS : va_S A s.heap s.heap [] := va_S.rf
  refine lv_aload_n hx hb dX7_lock_0 rfl (lv_at hl 0 rfl) ?_
  refine lv_aload_n hx hb dX7_lock_1 rfl (lv_at hl 0 rfl) ?_
  refine lv_iload_n hx hb dX7_lock_2 rfl (lv_at hl 1 rfl) ?_
  refine lv_iload_n hx hb dX7_lock_3 rfl (lv_at hl 2 rfl) ?_
  refine lv_iload_n hx hb dX7_lock_4 rfl (lv_at hl 3 rfl) ?_
  refine xr_call (va_runV (As := [.int p1, .int p2, .int o]) (rest := [.ref M]) ⟨hx, hb, hml, hown, hts⟩ (c_X7_wrongLock l D cA A M ad σ p1 p2 o nL hL hL2) (cwV 3 hts gX7_lock_X7_wrongLock rfl rfl rfl (by decide +kernel) ⟨Nat.le_of_ble_eq_true rfl, Nat.le_of_ble_eq_true rfl⟩) (xPV hK hM.1 rfl hM) rfl rfl hl.1 rfl (lv_room (Nat.le_of_ble_eq_true rfl)) dX7_lock_5 ⟨Nat.le_of_ble_eq_true rfl, Nat.le_of_ble_eq_true rfl⟩) ?_
  refine xw_calls (va_runV (As := [.int (kLk nL p1 p2 o)]) (rest := []) ⟨hx, hb, hml, hown, hts⟩ (c_X7_goes l D cA A M ad σ (kLk nL p1 p2 o)) (cwV 1 hts gX7_lock_X7_goes rfl rfl rfl (by decide +kernel) ⟨Nat.le_of_ble_eq_true rfl, Nat.le_of_ble_eq_true rfl⟩) (xPV hK hM.1 rfl hM) rfl rfl hl.1 rfl (lv_room (Nat.le_of_ble_eq_true rfl)) dX7_lock_8 ⟨Nat.le_of_ble_eq_true rfl, Nat.le_of_ble_eq_true rfl⟩) hS (fun _ _ h => h) (fun _ h => h) (fun H locs hM _ _ hS => ?_)
  refine xb_eq (tgt := 36) hx hb dX7_lock_11 (by decide) (fun c_1 => ?_) (fun c_1 => ?_)
  · have z_c_1 : ¬ (kLk nL p1 p2 o) = 0 := fun q => by simp [gz, q] at c_1
    refine lv_iconst (v := 0) hx hb dX7_lock_36 (by decide) ?_
    exact xw_iret hx hb hr hlocks hS (mJ_no hM (by rw [kLo, if_neg z_c_1]) z_c_1 rfl (PE.rf.sg 25 _ (by decide))) (Nat.le_refl _) (Nat.le_refl _) dX7_lock_37
  · have z_c_1 := gz_t c_1
    obtain ⟨y1_c_1, hv9, y3_c_1⟩ := kLk_0 z_c_1
    obtain ⟨j_p1, hj_p1, rfl⟩ := okN_of (by omega) y1_c_1
    have ei : ix (nI j_p1) = j_p1 := ix_nI (by omega)
    refine lv_aload_n hx hb dX7_lock_14 rfl (lv_at hl 0 rfl) ?_
    refine lv_aload_n hx hb dX7_lock_15 rfl (lv_at hl 0 rfl) ?_
    refine lv_iload_n hx hb dX7_lock_16 rfl (lv_at hl 1 rfl) ?_
    refine lv_iload_n hx hb dX7_lock_17 rfl (lv_at hl 2 rfl) ?_
    refine lv_iload_n hx hb dX7_lock_18 rfl (lv_at hl 3 rfl) ?_
    refine xr_call (va_runV (As := [.int (nI j_p1), .int p2, .int o]) (rest := [.ref M]) ⟨hx, hb, hml, hown, hts⟩ (c_X7_isBarred l D cA A M ad (sg σ 25 (kLk nL (nI j_p1) p2 o)) j_p1 p2 o (by omega)) (cwV 3 hts gX7_lock_X7_isBarred rfl rfl rfl (by decide +kernel) ⟨Nat.le_of_ble_eq_true rfl, Nat.le_of_ble_eq_true rfl⟩) (xPV hK hM.1 rfl hM) rfl rfl hl.1 rfl (lv_room (Nat.le_of_ble_eq_true rfl)) dX7_lock_19 ⟨Nat.le_of_ble_eq_true rfl, Nat.le_of_ble_eq_true rfl⟩) ?_
    refine xb_eq (tgt := 29) hx hb dX7_lock_22 (by decide) (fun c_2 => ?_) (fun c_2 => ?_)
    · have c_2 : (barF (σ.2.1 11) j_p1 p2 o 16) = false := c_2
      refine lv_iconst (v := 0) hx hb dX7_lock_29 (by decide) ?_
      refine xw_calls (va_runV (As := [.int 0]) (rest := []) ⟨hx, hb, hml, hown, hts⟩ (c_X7_goes l D cA A M ad (sg σ 25 (kLk nL (nI j_p1) p2 o)) 0) (cwV 1 hts gX7_lock_X7_goes rfl rfl rfl (by decide +kernel) ⟨Nat.le_of_ble_eq_true rfl, Nat.le_of_ble_eq_true rfl⟩) (xPV hK hM.1 rfl hM) rfl rfl hl.1 rfl (lv_room (Nat.le_of_ble_eq_true rfl)) dX7_lock_30 ⟨Nat.le_of_ble_eq_true rfl, Nat.le_of_ble_eq_true rfl⟩) hS (fun _ _ h => h) (fun _ h => h) (fun H locs hM _ _ hS => ?_)
      refine xb_ne (tgt := 38) hx hb dX7_lock_33 (by decide) (fun _ => ?_) (fun c_3 => absurd c_3 (by decide))
      refine lv_aload_n hx hb dX7_lock_38 rfl (lv_at hl 0 rfl) ?_
      refine m_get (v := .ref (ad 11)) hx hb hts h7 hown hK hM 11 (by decide) (hts (.fieldLink RX7 37 "ConfigBeaconModel" "locks" "[I") (by decide +kernel)) rfl dX7_lock_39 ?_
      refine lv_iload_n hx hb dX7_lock_42 rfl (lv_at hl 1 rfl) ?_
      refine lv_iload_n hx hb dX7_lock_43 rfl (lv_at hl 2 rfl) ?_
      refine xr_call (va_runS (As := [.int (nI j_p1), .int p2]) (rest := [.ref (ad 11)]) ⟨hx, hb, hml, hown, hts⟩ (c_X7_lockAt l D cA j_p1 p2 hv9) (va_cwS 2 hts gX7_lock_X7_lockAt rfl rfl rfl (by decide +kernel) ⟨Nat.le_of_ble_eq_true rfl, Nat.le_of_ble_eq_true rfl⟩) (xPS hK trivial) rfl rfl hl.1 rfl (lv_room (Nat.le_of_ble_eq_true rfl)) dX7_lock_44 ⟨Nat.le_of_ble_eq_true rfl, Nat.le_of_ble_eq_true rfl⟩) ?_
      refine lv_iload_n hx hb dX7_lock_47 rfl (lv_at hl 3 rfl) ?_
      refine m_ast hx hb hK hM hS 11 (by decide) (n := 136) rfl (lkA j_p1 p2) rfl (lkA_lt (by omega) hv9) (by decide) dX7_lock_48 (fun H locs hM hS => ?_)
      refine lv_aload_n hx hb dX7_lock_49 rfl (lv_at hl 0 rfl) ?_
      refine lv_iload_n hx hb dX7_lock_50 rfl (lv_at hl 3 rfl) ?_
      refine xr_call (va_runV (As := [.int o]) (rest := []) ⟨hx, hb, hml, hown, hts⟩ (c_X7_locksOf l D cA A M ad (sa (sg (sg σ 25 (kLk nL (nI j_p1) p2 o)) 25 0) 11 (lkA j_p1 p2) o) o) (cwV 1 hts gX7_lock_X7_locksOf rfl rfl rfl (by decide +kernel) ⟨Nat.le_of_ble_eq_true rfl, Nat.le_of_ble_eq_true rfl⟩) (xPV hK hM.1 rfl hM) rfl rfl hl.1 rfl (lv_room (Nat.le_of_ble_eq_true rfl)) dX7_lock_51 ⟨Nat.le_of_ble_eq_true rfl, Nat.le_of_ble_eq_true rfl⟩) ?_
      exact xw_iret hx hb hr hlocks hS (mJ_ok hM (by rw [kLo, if_pos z_c_1, ei]; simp [c_2]) rfl (by rw [ei]; exact ⟨rfl, PE_sa ((PE.rf.sg 25 _ (by decide)).sg 25 _ (by decide)) 11 _ _⟩)) (Nat.le_refl _) (Nat.le_refl _) dX7_lock_54
    · have c_2 : (barF (σ.2.1 11) j_p1 p2 o 16) = true := c_2
      refine lv_iconst (v := 3) hx hb dX7_lock_25 (by decide) ?_
      refine lv_goto (tgt := 30) hx hb dX7_lock_26 (by decide) ?_
      refine xw_calls (va_runV (As := [.int 3]) (rest := []) ⟨hx, hb, hml, hown, hts⟩ (c_X7_goes l D cA A M ad (sg σ 25 (kLk nL (nI j_p1) p2 o)) 3) (cwV 1 hts gX7_lock_X7_goes rfl rfl rfl (by decide +kernel) ⟨Nat.le_of_ble_eq_true rfl, Nat.le_of_ble_eq_true rfl⟩) (xPV hK hM.1 rfl hM) rfl rfl hl.1 rfl (lv_room (Nat.le_of_ble_eq_true rfl)) dX7_lock_30 ⟨Nat.le_of_ble_eq_true rfl, Nat.le_of_ble_eq_true rfl⟩) hS (fun _ _ h => h) (fun _ h => h) (fun H locs hM _ _ hS => ?_)
      refine xb_ne (tgt := 38) hx hb dX7_lock_33 (by decide) (fun c_4 => absurd c_4 (by decide)) (fun _ => ?_)
      refine lv_iconst (v := 0) hx hb dX7_lock_36 (by decide) ?_
      exact xw_iret hx hb hr hlocks hS (mJ_no (w := 3) hM (by rw [kLo, if_pos z_c_1, ei]; simp [c_2]) (by decide) rfl ((PE.rf.sg 25 _ (by decide)).sg 25 _ (by decide))) (Nat.le_refl _) (Nat.le_refl _) dX7_lock_37
set_option maxHeartbeats 4000000 in
set_option maxRecDepth 100000 in
theorem c_X7_unlock (l : Launch) (D : va_G) (cA : Nat → ClassId) (A : Nat → Prop) (M : Nat) (ad : Nat → Nat) (σ : MS) (p1 : Int32) (p2 : Int32) (o : Int32) (nL : Nat) (hL : σ.1 6 = nI nL) (hL2 : nL ≤ 8) : Met l yX7_unlock wsX7_unlock (rmK 3 0 0) (xP D cA [.ref M, .int p1, .int p2, .int o] (MR D cA A M ad σ)) (xW (mJ D cA A M ad σ (kUn σ nL p1 p2 o) (fun r τ => r = some (.int (nI (lksF ((sa σ 11 (lkA (ix p1) p2) 0).2.1 11) o))) ∧ PE τ (sa σ 11 (lkA (ix p1) p2) 0))) A) 0 0 A := by
  refine Met.ofW (cc := cX7_unlock) (maxL := 4) (ret := (some .int)) (by decide) rfl ?_
  intro p e s m args below meth c s₁ B hml hv
  obtain ⟨rfl, hK, hI⟩ := hv
  have hx := B.exec
  have hb := B.bytes
  have hr := B.returns
  have hts := atoms_spec (ws := wsX7_unlock) B.pre
  have hown : s.vm.findClass RX7 = some m.cls := findClass_of_methodNamed B.named
  have hlocks := B.notSynchronized
  have hl := lv_entry ([.ref M, .int p1, .int p2, .int o]) (n := 4) (Nat.le_of_ble_eq_true rfl)
  rw [lg_entry_eq]
  generalize (lg_sl ([.ref M, .int p1, .int p2, .int o]) ++ List.replicate (4 - (lg_sl ([.ref M, .int p1, .int p2, .int o])).length) Slot.unset).toArray = ls at hl ⊢
  have hl : lv_has ls 4 [(0, .ref M), (1, .int p1), (2, .int p2), (3, .int o)] := hl
  have hM : MR D cA A M ad σ s.heap := hI
  have h7 : ∀ w ∈ wsX70, w ∈ wsX7_unlock := fun _ h => List.mem_cons_of_mem _ (List.mem_append_right _ h)
  have hS : va_S A s.heap s.heap [] := va_S.rf
  refine lv_aload_n hx hb dX7_unlock_0 rfl (lv_at hl 0 rfl) ?_
  refine lv_aload_n hx hb dX7_unlock_1 rfl (lv_at hl 0 rfl) ?_
  refine lv_iload_n hx hb dX7_unlock_2 rfl (lv_at hl 1 rfl) ?_
  refine lv_iload_n hx hb dX7_unlock_3 rfl (lv_at hl 2 rfl) ?_
  refine lv_iload_n hx hb dX7_unlock_4 rfl (lv_at hl 3 rfl) ?_
  refine xr_call (va_runV (As := [.int p1, .int p2, .int o]) (rest := [.ref M]) ⟨hx, hb, hml, hown, hts⟩ (c_X7_wrongLock l D cA A M ad σ p1 p2 o nL hL hL2) (cwV 3 hts gX7_unlock_X7_wrongLock rfl rfl rfl (by decide +kernel) ⟨Nat.le_of_ble_eq_true rfl, Nat.le_of_ble_eq_true rfl⟩) (xPV hK hM.1 rfl hM) rfl rfl hl.1 rfl (lv_room (Nat.le_of_ble_eq_true rfl)) dX7_unlock_5 ⟨Nat.le_of_ble_eq_true rfl, Nat.le_of_ble_eq_true rfl⟩) ?_
  refine xw_calls (va_runV (As := [.int (kLk nL p1 p2 o)]) (rest := []) ⟨hx, hb, hml, hown, hts⟩ (c_X7_goes l D cA A M ad σ (kLk nL p1 p2 o)) (cwV 1 hts gX7_unlock_X7_goes rfl rfl rfl (by decide +kernel) ⟨Nat.le_of_ble_eq_true rfl, Nat.le_of_ble_eq_true rfl⟩) (xPV hK hM.1 rfl hM) rfl rfl hl.1 rfl (lv_room (Nat.le_of_ble_eq_true rfl)) dX7_unlock_8 ⟨Nat.le_of_ble_eq_true rfl, Nat.le_of_ble_eq_true rfl⟩) hS (fun _ _ h => h) (fun _ h => h) (fun H locs hM _ _ hS => ?_)
  refine xb_eq (tgt := 40) hx hb dX7_unlock_11 (by decide) (fun c_1 => ?_) (fun c_1 => ?_)
  · have z_c_1 : ¬ (kLk nL p1 p2 o) = 0 := fun q => by simp [gz, q] at c_1
    refine lv_iconst (v := 0) hx hb dX7_unlock_40 (by decide) ?_
    exact xw_iret hx hb hr hlocks hS (mJ_no hM (by rw [kUn, if_neg z_c_1]) z_c_1 rfl (PE.rf.sg 25 _ (by decide))) (Nat.le_refl _) (Nat.le_refl _) dX7_unlock_41
  · have z_c_1 := gz_t c_1
    obtain ⟨y1_c_1, hv9, y3_c_1⟩ := kLk_0 z_c_1
    obtain ⟨j_p1, hj_p1, rfl⟩ := okN_of (by omega) y1_c_1
    have ei : ix (nI j_p1) = j_p1 := ix_nI (by omega)
    refine lv_aload_n hx hb dX7_unlock_14 rfl (lv_at hl 0 rfl) ?_
    refine lv_aload_n hx hb dX7_unlock_15 rfl (lv_at hl 0 rfl) ?_
    refine m_get (v := .ref (ad 11)) hx hb hts h7 hown hK hM 11 (by decide) (hts (.fieldLink RX7 37 "ConfigBeaconModel" "locks" "[I") (by decide +kernel)) rfl dX7_unlock_16 ?_
    refine lv_iload_n hx hb dX7_unlock_19 rfl (lv_at hl 1 rfl) ?_
    refine lv_iload_n hx hb dX7_unlock_20 rfl (lv_at hl 2 rfl) ?_
    refine xr_call (va_runS (As := [.int (nI j_p1), .int p2]) (rest := [.ref (ad 11), .ref M]) ⟨hx, hb, hml, hown, hts⟩ (c_X7_lockAt l D cA j_p1 p2 hv9) (va_cwS 2 hts gX7_unlock_X7_lockAt rfl rfl rfl (by decide +kernel) ⟨Nat.le_of_ble_eq_true rfl, Nat.le_of_ble_eq_true rfl⟩) (xPS hK trivial) rfl rfl hl.1 rfl (lv_room (Nat.le_of_ble_eq_true rfl)) dX7_unlock_21 ⟨Nat.le_of_ble_eq_true rfl, Nat.le_of_ble_eq_true rfl⟩) ?_
    refine m_ald hx hb hK hM 11 (by decide) (n := 136) rfl (lkA j_p1 p2) rfl (lkA_lt (by omega) hv9) (by decide) dX7_unlock_24 (v := (σ.2.1 11 (lkA j_p1 p2))) rfl ?_
    refine lv_iload_n hx hb dX7_unlock_25 rfl (lv_at hl 3 rfl) ?_
    refine lv_icmp_ne (tgt := 33) hx hb dX7_unlock_26 (by decide) (fun c_2 => ?_) (fun c_2 => ?_)
    · refine lv_iconst (v := 3) hx hb dX7_unlock_33 (by decide) ?_
      refine xw_calls (va_runV (As := [.int 3]) (rest := []) ⟨hx, hb, hml, hown, hts⟩ (c_X7_goes l D cA A M ad (sg σ 25 (kLk nL (nI j_p1) p2 o)) 3) (cwV 1 hts gX7_unlock_X7_goes rfl rfl rfl (by decide +kernel) ⟨Nat.le_of_ble_eq_true rfl, Nat.le_of_ble_eq_true rfl⟩) (xPV hK hM.1 rfl hM) rfl rfl hl.1 rfl (lv_room (Nat.le_of_ble_eq_true rfl)) dX7_unlock_34 ⟨Nat.le_of_ble_eq_true rfl, Nat.le_of_ble_eq_true rfl⟩) hS (fun _ _ h => h) (fun _ h => h) (fun H locs hM _ _ hS => ?_)
      refine xb_ne (tgt := 42) hx hb dX7_unlock_37 (by decide) (fun c_3 => absurd c_3 (by decide)) (fun _ => ?_)
      refine lv_iconst (v := 0) hx hb dX7_unlock_40 (by decide) ?_
      exact xw_iret hx hb hr hlocks hS (mJ_no (w := 3) hM (by rw [kUn, if_pos z_c_1, ei]; simp [c_2]) (by decide) rfl ((PE.rf.sg 25 _ (by decide)).sg 25 _ (by decide))) (Nat.le_refl _) (Nat.le_refl _) dX7_unlock_41
    · refine lv_iconst (v := 0) hx hb dX7_unlock_29 (by decide) ?_
      refine lv_goto (tgt := 34) hx hb dX7_unlock_30 (by decide) ?_
      refine xw_calls (va_runV (As := [.int 0]) (rest := []) ⟨hx, hb, hml, hown, hts⟩ (c_X7_goes l D cA A M ad (sg σ 25 (kLk nL (nI j_p1) p2 o)) 0) (cwV 1 hts gX7_unlock_X7_goes rfl rfl rfl (by decide +kernel) ⟨Nat.le_of_ble_eq_true rfl, Nat.le_of_ble_eq_true rfl⟩) (xPV hK hM.1 rfl hM) rfl rfl hl.1 rfl (lv_room (Nat.le_of_ble_eq_true rfl)) dX7_unlock_34 ⟨Nat.le_of_ble_eq_true rfl, Nat.le_of_ble_eq_true rfl⟩) hS (fun _ _ h => h) (fun _ h => h) (fun H locs hM _ _ hS => ?_)
      refine xb_ne (tgt := 42) hx hb dX7_unlock_37 (by decide) (fun _ => ?_) (fun c_4 => absurd c_4 (by decide))
      refine lv_aload_n hx hb dX7_unlock_42 rfl (lv_at hl 0 rfl) ?_
      refine m_get (v := .ref (ad 11)) hx hb hts h7 hown hK hM 11 (by decide) (hts (.fieldLink RX7 37 "ConfigBeaconModel" "locks" "[I") (by decide +kernel)) rfl dX7_unlock_43 ?_
      refine lv_iload_n hx hb dX7_unlock_46 rfl (lv_at hl 1 rfl) ?_
      refine lv_iload_n hx hb dX7_unlock_47 rfl (lv_at hl 2 rfl) ?_
      refine xr_call (va_runS (As := [.int (nI j_p1), .int p2]) (rest := [.ref (ad 11)]) ⟨hx, hb, hml, hown, hts⟩ (c_X7_lockAt l D cA j_p1 p2 hv9) (va_cwS 2 hts gX7_unlock_X7_lockAt rfl rfl rfl (by decide +kernel) ⟨Nat.le_of_ble_eq_true rfl, Nat.le_of_ble_eq_true rfl⟩) (xPS hK trivial) rfl rfl hl.1 rfl (lv_room (Nat.le_of_ble_eq_true rfl)) dX7_unlock_48 ⟨Nat.le_of_ble_eq_true rfl, Nat.le_of_ble_eq_true rfl⟩) ?_
      refine lv_iconst (v := 0) hx hb dX7_unlock_51 (by decide) ?_
      refine m_ast hx hb hK hM hS 11 (by decide) (n := 136) rfl (lkA j_p1 p2) rfl (lkA_lt (by omega) hv9) (by decide) dX7_unlock_52 (fun H locs hM hS => ?_)
      refine lv_aload_n hx hb dX7_unlock_53 rfl (lv_at hl 0 rfl) ?_
      refine lv_iload_n hx hb dX7_unlock_54 rfl (lv_at hl 3 rfl) ?_
      refine xr_call (va_runV (As := [.int o]) (rest := []) ⟨hx, hb, hml, hown, hts⟩ (c_X7_locksOf l D cA A M ad (sa (sg (sg σ 25 (kLk nL (nI j_p1) p2 o)) 25 0) 11 (lkA j_p1 p2) 0) o) (cwV 1 hts gX7_unlock_X7_locksOf rfl rfl rfl (by decide +kernel) ⟨Nat.le_of_ble_eq_true rfl, Nat.le_of_ble_eq_true rfl⟩) (xPV hK hM.1 rfl hM) rfl rfl hl.1 rfl (lv_room (Nat.le_of_ble_eq_true rfl)) dX7_unlock_55 ⟨Nat.le_of_ble_eq_true rfl, Nat.le_of_ble_eq_true rfl⟩) ?_
      exact xw_iret hx hb hr hlocks hS (mJ_ok hM (by rw [kUn, if_pos z_c_1, ei]; simp [c_2]) rfl (by rw [ei]; exact ⟨rfl, PE_sa ((PE.rf.sg 25 _ (by decide)).sg 25 _ (by decide)) 11 _ _⟩)) (Nat.le_refl _) (Nat.le_refl _) dX7_unlock_58
set_option maxHeartbeats 4000000 in
set_option maxRecDepth 100000 in
theorem c_X7_isLocked (l : Launch) (D : va_G) (cA : Nat → ClassId) (A : Nat → Prop) (M : Nat) (ad : Nat → Nat) (σ : MS) (p1 : Int32) (p2 : Int32) (o : Int32) (nL : Nat) (hL : σ.1 6 = nI nL) (hL2 : nL ≤ 8) : Met l yX7_isLocked wsX7_isLocked (rmK 2 0 0) (xP D cA [.ref M, .int p1, .int p2, .int o] (MR D cA A M ad σ)) (xW (mJ D cA A M ad σ (kIL nL p1 p2 o) (fun r τ => r = some (.int (bI (lckF (σ.2.1 11) (cl p1 p2) o))) ∧ PE τ σ)) A) 0 0 A := by
  refine Met.ofW (cc := cX7_isLocked) (maxL := 4) (ret := (some .boolean)) (by decide) rfl ?_
  intro p e s m args below meth c s₁ B hml hv
  obtain ⟨rfl, hK, hI⟩ := hv
  have hx := B.exec
  have hb := B.bytes
  have hr := B.returns
  have hts := atoms_spec (ws := wsX7_isLocked) B.pre
  have hown : s.vm.findClass RX7 = some m.cls := findClass_of_methodNamed B.named
  have hlocks := B.notSynchronized
  have hl := lv_entry ([.ref M, .int p1, .int p2, .int o]) (n := 4) (Nat.le_of_ble_eq_true rfl)
  rw [lg_entry_eq]
  generalize (lg_sl ([.ref M, .int p1, .int p2, .int o]) ++ List.replicate (4 - (lg_sl ([.ref M, .int p1, .int p2, .int o])).length) Slot.unset).toArray = ls at hl ⊢
  have hl : lv_has ls 4 [(0, .ref M), (1, .int p1), (2, .int p2), (3, .int o)] := hl
  have hM : MR D cA A M ad σ s.heap := hI
  have h7 : ∀ w ∈ wsX70, w ∈ wsX7_isLocked := fun _ h => List.mem_cons_of_mem _ (List.mem_append_right _ h)
  have hS : va_S A s.heap s.heap [] := va_S.rf
  refine lv_aload_n hx hb dX7_isLocked_0 rfl (lv_at hl 0 rfl) ?_
  refine lv_aload_n hx hb dX7_isLocked_1 rfl (lv_at hl 0 rfl) ?_
  refine lv_iload_n hx hb dX7_isLocked_2 rfl (lv_at hl 1 rfl) ?_
  refine xr_call (va_runV (As := [.int p1]) (rest := [.ref M]) ⟨hx, hb, hml, hown, hts⟩ (c_X7_isLayer l D cA A M ad σ p1 nL hL (by omega)) (cwV 1 hts gX7_isLocked_X7_isLayer rfl rfl rfl (by decide +kernel) ⟨Nat.le_of_ble_eq_true rfl, Nat.le_of_ble_eq_true rfl⟩) (xPV hK hM.1 rfl hM) rfl rfl hl.1 rfl (lv_room (Nat.le_of_ble_eq_true rfl)) dX7_isLocked_3 ⟨Nat.le_of_ble_eq_true rfl, Nat.le_of_ble_eq_true rfl⟩) ?_
  refine xb_eq (tgt := 16) hx hb dX7_isLocked_6 (by decide) (fun c_1 => ?_) (fun c_1 => ?_)
  · refine lv_iconst (v := 1) hx hb dX7_isLocked_16 (by decide) ?_
    refine lv_goto (tgt := 32) hx hb dX7_isLocked_17 (by decide) ?_
    refine xw_calls (va_runV (As := [.int 1]) (rest := []) ⟨hx, hb, hml, hown, hts⟩ (c_X7_goes l D cA A M ad σ 1) (cwV 1 hts gX7_isLocked_X7_goes rfl rfl rfl (by decide +kernel) ⟨Nat.le_of_ble_eq_true rfl, Nat.le_of_ble_eq_true rfl⟩) (xPV hK hM.1 rfl hM) rfl rfl hl.1 rfl (lv_room (Nat.le_of_ble_eq_true rfl)) dX7_isLocked_32 ⟨Nat.le_of_ble_eq_true rfl, Nat.le_of_ble_eq_true rfl⟩) hS (fun _ _ h => h) (fun _ h => h) (fun H locs hM _ _ hS => ?_)
    refine xb_eq (tgt := 55) hx hb dX7_isLocked_35 (by decide) (fun _ => ?_) (fun c_2 => absurd c_2 (by decide))
    refine lv_iconst (v := 0) hx hb dX7_isLocked_55 (by decide) ?_
    exact xw_zret hx hb hr hlocks (b := false) rfl hS (mJ_no (w := 1) hM (by first | (simp [kIL, c_1]; done) | (simp_all [kIL]; done) | (simp [kIL, c_1]; omega)) (by decide) rfl (PE.rf.sg 25 _ (by decide))) (Nat.le_refl _) (Nat.le_refl _) dX7_isLocked_56
  · obtain ⟨j_p1, hj_p1, rfl⟩ := okN_of (by omega) c_1
    refine lv_iload_n hx hb dX7_isLocked_9 rfl (lv_at hl 2 rfl) ?_
    refine xr_call (va_runS (As := [.int p2]) (rest := [.ref M]) ⟨hx, hb, hml, hown, hts⟩ (c_X7_isSetting l D cA p2) (va_cwS 1 hts gX7_isLocked_X7_isSetting rfl rfl rfl (by decide +kernel) ⟨Nat.le_of_ble_eq_true rfl, Nat.le_of_ble_eq_true rfl⟩) (xPS hK trivial) rfl rfl hl.1 rfl (lv_room (Nat.le_of_ble_eq_true rfl)) dX7_isLocked_10 ⟨Nat.le_of_ble_eq_true rfl, Nat.le_of_ble_eq_true rfl⟩) ?_
    refine xb_ne (tgt := 20) hx hb dX7_isLocked_13 (by decide) (fun c_3 => ?_) (fun c_3 => ?_)
    · obtain ⟨j_p2, hj_p2, rfl⟩ := okS_of c_3
      refine lv_iload_n hx hb dX7_isLocked_20 rfl (lv_at hl 3 rfl) ?_
      refine xr_call (va_runS (As := [.int o]) (rest := [.ref M]) ⟨hx, hb, hml, hown, hts⟩ (c_X7_isOwner l D cA o) (va_cwS 1 hts gX7_isLocked_X7_isOwner rfl rfl rfl (by decide +kernel) ⟨Nat.le_of_ble_eq_true rfl, Nat.le_of_ble_eq_true rfl⟩) (xPS hK trivial) rfl rfl hl.1 rfl (lv_room (Nat.le_of_ble_eq_true rfl)) dX7_isLocked_21 ⟨Nat.le_of_ble_eq_true rfl, Nat.le_of_ble_eq_true rfl⟩) ?_
      refine xb_eq (tgt := 31) hx hb dX7_isLocked_24 (by decide) (fun c_4 => ?_) (fun c_4 => ?_)
      · refine lv_iconst (v := 2) hx hb dX7_isLocked_31 (by decide) ?_
        refine xw_calls (va_runV (As := [.int 2]) (rest := []) ⟨hx, hb, hml, hown, hts⟩ (c_X7_goes l D cA A M ad σ 2) (cwV 1 hts gX7_isLocked_X7_goes rfl rfl rfl (by decide +kernel) ⟨Nat.le_of_ble_eq_true rfl, Nat.le_of_ble_eq_true rfl⟩) (xPV hK hM.1 rfl hM) rfl rfl hl.1 rfl (lv_room (Nat.le_of_ble_eq_true rfl)) dX7_isLocked_32 ⟨Nat.le_of_ble_eq_true rfl, Nat.le_of_ble_eq_true rfl⟩) hS (fun _ _ h => h) (fun _ h => h) (fun H locs hM _ _ hS => ?_)
        refine xb_eq (tgt := 55) hx hb dX7_isLocked_35 (by decide) (fun _ => ?_) (fun c_5 => absurd c_5 (by decide))
        refine lv_iconst (v := 0) hx hb dX7_isLocked_55 (by decide) ?_
        exact xw_zret hx hb hr hlocks (b := false) rfl hS (mJ_no (w := 2) hM (by first | (simp [kIL, c_1, c_3, c_4]; done) | (simp_all [kIL]; done) | (simp [kIL, c_1, c_3, c_4]; omega)) (by decide) rfl (PE.rf.sg 25 _ (by decide))) (Nat.le_refl _) (Nat.le_refl _) dX7_isLocked_56
      · refine lv_iconst (v := 0) hx hb dX7_isLocked_27 (by decide) ?_
        refine lv_goto (tgt := 32) hx hb dX7_isLocked_28 (by decide) ?_
        refine xw_calls (va_runV (As := [.int 0]) (rest := []) ⟨hx, hb, hml, hown, hts⟩ (c_X7_goes l D cA A M ad σ 0) (cwV 1 hts gX7_isLocked_X7_goes rfl rfl rfl (by decide +kernel) ⟨Nat.le_of_ble_eq_true rfl, Nat.le_of_ble_eq_true rfl⟩) (xPV hK hM.1 rfl hM) rfl rfl hl.1 rfl (lv_room (Nat.le_of_ble_eq_true rfl)) dX7_isLocked_32 ⟨Nat.le_of_ble_eq_true rfl, Nat.le_of_ble_eq_true rfl⟩) hS (fun _ _ h => h) (fun _ h => h) (fun H locs hM _ _ hS => ?_)
        refine xb_eq (tgt := 55) hx hb dX7_isLocked_35 (by decide) (fun c_6 => absurd c_6 (by decide)) (fun _ => ?_)
        refine lv_aload_n hx hb dX7_isLocked_38 rfl (lv_at hl 0 rfl) ?_
        refine lv_iload_n hx hb dX7_isLocked_39 rfl (lv_at hl 1 rfl) ?_
        refine lv_iload_n hx hb dX7_isLocked_40 rfl (lv_at hl 2 rfl) ?_
        refine xr_call (va_runS (As := [.int (nI j_p1), .int (nI j_p2)]) (rest := [.ref M]) ⟨hx, hb, hml, hown, hts⟩ (c_X7_cell l D cA j_p1 j_p2) (va_cwS 2 hts gX7_isLocked_X7_cell rfl rfl rfl (by decide +kernel) ⟨Nat.le_of_ble_eq_true rfl, Nat.le_of_ble_eq_true rfl⟩) (xPS hK trivial) rfl rfl hl.1 rfl (lv_room (Nat.le_of_ble_eq_true rfl)) dX7_isLocked_41 ⟨Nat.le_of_ble_eq_true rfl, Nat.le_of_ble_eq_true rfl⟩) ?_
        refine lv_iload_n hx hb dX7_isLocked_44 rfl (lv_at hl 3 rfl) ?_
        refine xr_call (va_runV (As := [.int (nI (16 * j_p1 + j_p2)), .int o]) (rest := []) ⟨hx, hb, hml, hown, hts⟩ (c_X7_isLockedFor l D cA A M ad (sg σ 25 0) (16 * j_p1 + j_p2) o (by omega)) (cwV 2 hts gX7_isLocked_X7_isLockedFor rfl rfl rfl (by decide +kernel) ⟨Nat.le_of_ble_eq_true rfl, Nat.le_of_ble_eq_true rfl⟩) (xPV hK hM.1 rfl hM) rfl rfl hl.1 rfl (lv_room (Nat.le_of_ble_eq_true rfl)) dX7_isLocked_45 ⟨Nat.le_of_ble_eq_true rfl, Nat.le_of_ble_eq_true rfl⟩) ?_
        refine xb_eq (tgt := 55) hx hb dX7_isLocked_48 (by decide) (fun c_7 => ?_) (fun c_7 => ?_)
        · have c_7 : (lckF (σ.2.1 11) (16 * j_p1 + j_p2) o) = false := c_7
          refine lv_iconst (v := 0) hx hb dX7_isLocked_55 (by decide) ?_
          exact xw_zret hx hb hr hlocks (b := false) rfl hS (mJ_ok hM (by first | (simp [kIL, c_1, c_3, c_4, c_7]; done) | (simp_all [kIL]; done) | (simp [kIL, c_1, c_3, c_4, c_7]; omega)) rfl (by rw [cl_nI (a := j_p1) (b := j_p2) (by omega) (by omega)]; exact ⟨by rw [c_7], PE.rf.sg 25 _ (by decide)⟩)) (Nat.le_refl _) (Nat.le_refl _) dX7_isLocked_56
        · have c_7 : (lckF (σ.2.1 11) (16 * j_p1 + j_p2) o) = true := c_7
          refine lv_iconst (v := 1) hx hb dX7_isLocked_51 (by decide) ?_
          refine lv_goto (tgt := 56) hx hb dX7_isLocked_52 (by decide) ?_
          exact xw_zret hx hb hr hlocks (b := true) rfl hS (mJ_ok hM (by first | (simp [kIL, c_1, c_3, c_4, c_7]; done) | (simp_all [kIL]; done) | (simp [kIL, c_1, c_3, c_4, c_7]; omega)) rfl (by rw [cl_nI (a := j_p1) (b := j_p2) (by omega) (by omega)]; exact ⟨by rw [c_7], PE.rf.sg 25 _ (by decide)⟩)) (Nat.le_refl _) (Nat.le_refl _) dX7_isLocked_56
    · refine lv_iconst (v := 1) hx hb dX7_isLocked_16 (by decide) ?_
      refine lv_goto (tgt := 32) hx hb dX7_isLocked_17 (by decide) ?_
      refine xw_calls (va_runV (As := [.int 1]) (rest := []) ⟨hx, hb, hml, hown, hts⟩ (c_X7_goes l D cA A M ad σ 1) (cwV 1 hts gX7_isLocked_X7_goes rfl rfl rfl (by decide +kernel) ⟨Nat.le_of_ble_eq_true rfl, Nat.le_of_ble_eq_true rfl⟩) (xPV hK hM.1 rfl hM) rfl rfl hl.1 rfl (lv_room (Nat.le_of_ble_eq_true rfl)) dX7_isLocked_32 ⟨Nat.le_of_ble_eq_true rfl, Nat.le_of_ble_eq_true rfl⟩) hS (fun _ _ h => h) (fun _ h => h) (fun H locs hM _ _ hS => ?_)
      refine xb_eq (tgt := 55) hx hb dX7_isLocked_35 (by decide) (fun _ => ?_) (fun c_8 => absurd c_8 (by decide))
      refine lv_iconst (v := 0) hx hb dX7_isLocked_55 (by decide) ?_
      exact xw_zret hx hb hr hlocks (b := false) rfl hS (mJ_no (w := 1) hM (by first | (simp [kIL, c_1, c_3]; done) | (simp_all [kIL]; done) | (simp [kIL, c_1, c_3]; omega)) (by decide) rfl (PE.rf.sg 25 _ (by decide))) (Nat.le_refl _) (Nat.le_refl _) dX7_isLocked_56
