set_option maxHeartbeats 4000000 in
set_option maxRecDepth 100000 in
theorem c_X7_asks (l : Launch) (D : va_G) (cA : Nat → ClassId) (A : Nat → Prop) (M : Nat) (ad : Nat → Nat) (σ : MS) (c9 : Nat) (b0 : Nat) (w : Option Nat) (ρ : MS) (hp : PE σ ρ) (nL : Nat) (hL : ρ.1 6 = nI nL) (hL2 : nL ≤ 8) (hc : c9 < 12) (hb0 : b0 < 16) (hw : ∀ v, w = some v → v ≤ 512) (hdec : ∀ b, b < 16 → decE ρ.2.1 c9 w nL b ≠ 0 → vS (dF (decE ρ.2.1 c9 w nL b)) ∧ vS (dS (decE ρ.2.1 c9 w nL b))) : Met l yX7_asks wsX7_asks (rmK 5 0 0) (xP D cA [.ref M, .int (nI c9), .int (nI b0), .int (atI w)] (MR D cA A M ad σ)) (xW (xV (some (.long (akV (akE ρ c9 w nL b0) b0))) (akH (MR D cA A M ad) ρ (σ.1 25) (akE ρ c9 w nL b0))) A) 0 0 A := by
  refine Met.ofW (cc := cX7_asks) (maxL := 6) (ret := (some .long)) (by decide) rfl ?_
  intro p e s m args below meth c s₁ B hml hv
  obtain ⟨rfl, hK, hI⟩ := hv
  have hx := B.exec
  have hb := B.bytes
  have hr := B.returns
  have hts := atoms_spec (ws := wsX7_asks) B.pre
  have hown : s.vm.findClass RX7 = some m.cls := findClass_of_methodNamed B.named
  have hlocks := B.notSynchronized
  have hl := lv_entry ([.ref M, .int (nI c9), .int (nI b0), .int (atI w)]) (n := 6) (Nat.le_of_ble_eq_true rfl)
  rw [lg_entry_eq]
  generalize (lg_sl ([.ref M, .int (nI c9), .int (nI b0), .int (atI w)]) ++ List.replicate (6 - (lg_sl ([.ref M, .int (nI c9), .int (nI b0), .int (atI w)])).length) Slot.unset).toArray = ls at hl ⊢
  have hl : lv_has ls 6 [(0, .ref M), (1, .int (nI c9)), (2, .int (nI b0)), (3, .int (atI w))] := hl
  have hM : MR D cA A M ad σ s.heap := hI
  have h7 : ∀ w ∈ wsX70, w ∈ wsX7_asks := fun _ h => List.mem_cons_of_mem _ (List.mem_append_right _ h)
  have hS : va_S A s.heap s.heap [] := va_S.rf
  refine lv_aload_n hx hb dX7_asks_0 rfl (lv_at hl 0 rfl) ?_
  refine lv_iconst (v := 0) hx hb dX7_asks_1 (by decide) ?_
  refine m_put hx hb hts h7 hown hK hM hS 20 (by decide) (by decide) (hts (.fieldLink RX7 171 "ConfigBeaconModel" "known" "I") (by decide +kernel)) rfl rfl dX7_asks_2 (fun H locs hM hS => ?_)
  refine lv_aload_n hx hb dX7_asks_5 rfl (lv_at hl 0 rfl) ?_
  refine lv_iconst (v := 0) hx hb dX7_asks_6 (by decide) ?_
  refine m_put hx hb hts h7 hown hK hM hS 21 (by decide) (by decide) (hts (.fieldLink RX7 177 "ConfigBeaconModel" "working" "I") (by decide +kernel)) rfl rfl dX7_asks_7 (fun H locs hM hS => ?_)
  refine lv_aload_n hx hb dX7_asks_10 rfl (lv_at hl 0 rfl) ?_
  refine lv_iconst (v := 0) hx hb dX7_asks_11 (by decide) ?_
  refine m_put hx hb hts h7 hown hK hM hS 22 (by decide) (by decide) (hts (.fieldLink RX7 168 "ConfigBeaconModel" "used" "I") (by decide +kernel)) rfl rfl dX7_asks_12 (fun H locs hM hS => ?_)
  refine lv_aload_n hx hb dX7_asks_15 rfl (lv_at hl 0 rfl) ?_
  refine lv_iconst (v := 0) hx hb dX7_asks_16 (by decide) ?_
  refine m_put hx hb hts h7 hown hK hM hS 23 (by decide) (by decide) (hts (.fieldLink RX7 159 "ConfigBeaconModel" "status" "I") (by decide +kernel)) rfl rfl dX7_asks_17 (fun H locs hM hS => ?_)
  refine lv_aload_n hx hb dX7_asks_20 rfl (lv_at hl 0 rfl) ?_
  refine lv_iconst (v := (-1)) hx hb dX7_asks_21 (by decide) ?_
  refine m_put hx hb hts h7 hown hK hM hS 24 (by decide) (by decide) (hts (.fieldLink RX7 162 "ConfigBeaconModel" "culprit" "I") (by decide +kernel)) rfl rfl dX7_asks_22 (fun H locs hM hS => ?_)
  refine lv_aload_n hx hb dX7_asks_25 rfl (lv_at hl 0 rfl) ?_
  refine lv_iconst (v := (-1)) hx hb dX7_asks_26 (by decide) ?_
  refine m_put hx hb hts h7 hown hK hM hS 18 (by decide) (by decide) (hts (.fieldLink RX7 174 "ConfigBeaconModel" "level" "I") (by decide +kernel)) rfl rfl dX7_asks_27 (fun H locs hM hS => ?_)
  refine lv_aload_n hx hb dX7_asks_30 rfl (lv_at hl 0 rfl) ?_
  refine lv_iload_n hx hb dX7_asks_31 rfl (lv_at hl 1 rfl) ?_
  refine lv_iload_n hx hb dX7_asks_32 rfl (lv_at hl 2 rfl) ?_
  refine lv_iload_n hx hb dX7_asks_33 rfl (lv_at hl 3 rfl) ?_
  refine xw_calln (va_runV (As := [.int (nI c9), .int (nI b0), .int (atI w)]) (rest := []) ⟨hx, hb, hml, hown, hts⟩ (c_X7_needs l D cA A M ad (sg (sg (sg (sg (sg (sg σ 20 0) 21 0) 22 0) 23 0) 24 (-1)) 18 (-1)) c9 b0 w nL ((hp.1 6 (by decide)).trans hL) hL2 hc hb0 hw 0 (show (-1 : Int32) = lvI 0 by decide) (fun h => by have h : tbF 0 b0 = true := h; rw [tb_0 hb0] at h; cases h) (fun _ _ _ _ => by omega)) (cwV 3 hts gX7_asks_X7_needs rfl rfl rfl (by decide +kernel) ⟨Nat.le_of_ble_eq_true rfl, Nat.le_of_ble_eq_true rfl⟩) (xPV hK hM.1 rfl hM) rfl rfl hl.1 rfl (lv_room (Nat.le_of_ble_eq_true rfl)) dX7_asks_34 ⟨Nat.le_of_ble_eq_true rfl, Nat.le_of_ble_eq_true rfl⟩) hS (fun _ _ h => h) (fun _ h => h) (fun H locs hM _ _ hS => ?_)
  refine asks_ind (G := (fun τ => τ.1 6 = nI nL → ∀ (H : Heap) (locs : List Loc) (ls : Array Slot), MR D cA A M ad τ H → va_S A s.heap H locs → lv_has ls 6 [(0, .ref M), (1, .int (nI c9)), (2, .int (nI b0)), (3, .int (atI w))] → W p l e (rmK 5 0 0) s m ([.ref M, .int (nI c9), .int (nI b0), .int (atI w)] : List Value).toArray below meth c H locs 0 0 (MQ below (xW (xV (some (.long (akV (akE ρ c9 w nL b0) b0))) (akH (MR D cA A M ad) ρ (σ.1 25) (akE ρ c9 w nL b0))) A) ([.ref M, .int (nI c9), .int (nI b0), .int (atI w)] : List Value).toArray s 0 0 A) (F0 m 37 ls []))) (nL := nL) (c9 := c9) (w := w) (σ0 := ρ) (t25 := σ.1 25) hdec ?_ ?_ ?_ 17 b0 (0, 0, 0, fun _ => 0) 0 (sg (sg (sg (sg (sg (sg σ 20 0) 21 0) 22 0) 23 0) 24 (-1)) 18 (-1)) hb0 ?_ rfl (fun h => by have h : tbF 0 b0 = true := h; rw [tb_0 hb0] at h; cases h) ?_ ((nedS_6 _ _ _ _ _ _).trans ((hp.1 6 (by decide)).trans hL)) _ _ _ hM hS (lv_sub hl [0, 1, 2, 3] rfl)
  · intro τ dd e9 h23 h18 hdd hcn h17 h15 hv hA hB h6 H locs ls hM hS hl
    refine lv_aload_n hx hb dX7_asks_37 rfl (lv_at hl 0 rfl) ?_
    refine m_get (v := .int 0) hx hb hts h7 hown hK hM 23 (by decide) (hts (.fieldLink RX7 159 "ConfigBeaconModel" "status" "I") (by decide +kernel)) (by show some (Value.int (τ.1 23)) = _; rw [h23]) dX7_asks_38 ?_
    refine lv_if_ne (tgt := 149) hx hb dX7_asks_41 (by decide) (fun c_1 => absurd c_1 (by decide)) (fun _ => ?_)
    refine lv_aload_n hx hb dX7_asks_44 rfl (lv_at hl 0 rfl) ?_
    refine m_get (v := .int (nI dd)) hx hb hts h7 hown hK hM 18 (by decide) (hts (.fieldLink RX7 174 "ConfigBeaconModel" "level" "I") (by decide +kernel)) (by show some (Value.int (τ.1 18)) = _; rw [h18]) dX7_asks_45 ?_
    refine lv_if_lt (tgt := 149) hx hb dX7_asks_48 (by decide) (fun c_2 => absurd c_2 (nI_pos (by omega))) (fun _ => ?_)
    refine lv_aload_n hx hb dX7_asks_51 rfl (lv_at hl 0 rfl) ?_
    refine m_get (v := .ref (ad 17)) hx hb hts h7 hown hK hM 17 (by decide) (hts (.fieldLink RX7 54 "ConfigBeaconModel" "steps" "[I") (by decide +kernel)) rfl dX7_asks_52 ?_
    refine lv_aload_n hx hb dX7_asks_55 rfl (lv_at hl 0 rfl) ?_
    refine m_get (v := .int (nI dd)) hx hb hts h7 hown hK hM 18 (by decide) (hts (.fieldLink RX7 174 "ConfigBeaconModel" "level" "I") (by decide +kernel)) (by show some (Value.int (τ.1 18)) = _; rw [h18]) dX7_asks_56 ?_
    refine m_ald hx hb hK hM 17 (by decide) (n := 16) rfl dd rfl (by omega) (by decide) dX7_asks_59 (v := 0) h17 ?_
    refine lv_istore (lv' := [(4, .int 0), (0, .ref M), (1, .int (nI c9)), (2, .int (nI b0)), (3, .int (atI w))]) hx hb dX7_asks_60 hl (by decide) rfl (fun ls hl => ?_)
    refine lv_iload hx hb dX7_asks_62 (lv_at hl 0 rfl) ?_
    refine lv_if_ne (tgt := 82) hx hb dX7_asks_64 (by decide) (fun c_3 => absurd c_3 (by decide)) (fun _ => ?_)
    refine lv_aload_n hx hb dX7_asks_67 rfl (lv_at hl 1 rfl) ?_
    refine m_get (v := .ref (ad 15)) hx hb hts h7 hown hK hM 15 (by decide) (hts (.fieldLink RX7 47 "ConfigBeaconModel" "theirs" "[I") (by decide +kernel)) rfl dX7_asks_68 ?_
    refine lv_aload_n hx hb dX7_asks_71 rfl (lv_at hl 1 rfl) ?_
    refine m_get (v := .int (nI dd)) hx hb hts h7 hown hK hM 18 (by decide) (hts (.fieldLink RX7 174 "ConfigBeaconModel" "level" "I") (by decide +kernel)) (by show some (Value.int (τ.1 18)) = _; rw [h18]) dX7_asks_72 ?_
    refine m_ald hx hb hK hM 15 (by decide) (n := 16) rfl dd rfl (by omega) (by decide) dX7_asks_75 (v := e9) h15 ?_
    refine xr_call (va_runS (As := [.int e9]) (rest := []) ⟨hx, hb, hml, hown, hts⟩ (c_X7_firstOf l D cA e9) (va_cwS 1 hts gX7_asks_X7_firstOf rfl rfl rfl (by decide +kernel) ⟨Nat.le_of_ble_eq_true rfl, Nat.le_of_ble_eq_true rfl⟩) (xPS hK trivial) rfl rfl hl.1 rfl (lv_room (Nat.le_of_ble_eq_true rfl)) dX7_asks_76 ⟨Nat.le_of_ble_eq_true rfl, Nat.le_of_ble_eq_true rfl⟩) ?_
    refine lv_goto (tgt := 104) hx hb dX7_asks_79 (by decide) ?_
    refine lv_istore (lv' := [(5, .int (dF e9)), (4, .int 0), (0, .ref M), (1, .int (nI c9)), (2, .int (nI b0)), (3, .int (atI w))]) hx hb dX7_asks_104 hl (by decide) rfl (fun ls hl => ?_)
    refine lv_aload_n hx hb dX7_asks_106 rfl (lv_at hl 2 rfl) ?_
    refine m_get (v := .ref (ad 17)) hx hb hts h7 hown hK hM 17 (by decide) (hts (.fieldLink RX7 54 "ConfigBeaconModel" "steps" "[I") (by decide +kernel)) rfl dX7_asks_107 ?_
    refine lv_aload_n hx hb dX7_asks_110 rfl (lv_at hl 2 rfl) ?_
    refine m_get (v := .int (nI dd)) hx hb hts h7 hown hK hM 18 (by decide) (hts (.fieldLink RX7 174 "ConfigBeaconModel" "level" "I") (by decide +kernel)) (by show some (Value.int (τ.1 18)) = _; rw [h18]) dX7_asks_111 ?_
    refine lv_dup2_11 hx hb dX7_asks_114 rfl rfl ?_
    refine m_ald hx hb hK hM 17 (by decide) (n := 16) rfl dd rfl (by omega) (by decide) dX7_asks_115 (v := 0) h17 ?_
    refine lv_iconst (v := 1) hx hb dX7_asks_116 (by decide) ?_
    refine xe_iadd hx hb (show (0 : Int32) + 1 = 1 from by decide) dX7_asks_117 ?_
    refine m_ast hx hb hK hM hS 17 (by decide) (n := 16) rfl dd rfl (by omega) (by decide) dX7_asks_118 (fun H locs hM hS => ?_)
    refine lv_iload hx hb dX7_asks_119 (lv_at hl 1 rfl) ?_
    refine lv_iconst (v := 2) hx hb dX7_asks_121 (by decide) ?_
    refine lv_icmp_ne (tgt := 132) hx hb dX7_asks_122 (by decide) (fun _ => ?_) (fun c_4 => absurd c_4 (by decide))
    refine lv_iload hx hb dX7_asks_132 (lv_at hl 0 rfl) ?_
    refine lv_iconst (v := (-1)) hx hb dX7_asks_134 (by decide) ?_
    refine lv_icmp_eq (tgt := 146) hx hb dX7_asks_135 (by decide) (fun c_5 => ?_) (fun c_5 => ?_)
    · refine lv_goto (tgt := 37) hx hb dX7_asks_146 (by decide) ?_
      exact hA c_5 h6 _ _ _ hM hS (lv_sub hl [2, 3, 4, 5] rfl)
    · obtain ⟨f9, hf9, ef9⟩ := okS_of (hv.resolve_left c_5)
      refine lv_aload_n hx hb dX7_asks_138 rfl (lv_at hl 2 rfl) ?_
      refine lv_iload_n hx hb dX7_asks_139 rfl (lv_at hl 3 rfl) ?_
      refine lv_iload hx hb dX7_asks_140 (lv_at hl 0 rfl) ?_
      refine xe_top ef9 ?_
      refine lv_iload_n hx hb dX7_asks_142 rfl (lv_at hl 5 rfl) ?_
      refine xw_calln (va_runV (As := [.int (nI c9), .int (nI f9), .int (atI w)]) (rest := []) ⟨hx, hb, hml, hown, hts⟩ (c_X7_needs l D cA A M ad (sa τ 17 dd 1) c9 f9 w nL h6 hL2 hc hf9 hw (dd + 1) (by rw [lvI_q]; exact h18) (fun _ => ⟨by omega, by omega⟩) (fun _ _ _ h => by have h := cnU_room hf9 h; have h2 : cnU (τ.1 21) = dd + 1 := hcn; have h3 : cnU (τ.1 21) < 16 := h; omega)) (cwV 3 hts gX7_asks_X7_needs rfl rfl rfl (by decide +kernel) ⟨Nat.le_of_ble_eq_true rfl, Nat.le_of_ble_eq_true rfl⟩) (xPV hK hM.1 rfl hM) rfl rfl hl.1 rfl (lv_room (Nat.le_of_ble_eq_true rfl)) dX7_asks_143 ⟨Nat.le_of_ble_eq_true rfl, Nat.le_of_ble_eq_true rfl⟩) hS (fun _ _ h => h) (fun _ h => h) (fun H locs hM _ _ hS => ?_)
      refine lv_goto (tgt := 37) hx hb dX7_asks_146 (by decide) ?_
      exact hB f9 hf9 ef9 ((nedS_6 _ _ _ _ _ _).trans h6) _ _ _ hM hS (lv_sub hl [2, 3, 4, 5] rfl)
  · intro τ dd e9 h23 h18 hdd hcn h17 h15 hv hA hB h6 H locs ls hM hS hl
    refine lv_aload_n hx hb dX7_asks_37 rfl (lv_at hl 0 rfl) ?_
    refine m_get (v := .int 0) hx hb hts h7 hown hK hM 23 (by decide) (hts (.fieldLink RX7 159 "ConfigBeaconModel" "status" "I") (by decide +kernel)) (by show some (Value.int (τ.1 23)) = _; rw [h23]) dX7_asks_38 ?_
    refine lv_if_ne (tgt := 149) hx hb dX7_asks_41 (by decide) (fun c_6 => absurd c_6 (by decide)) (fun _ => ?_)
    refine lv_aload_n hx hb dX7_asks_44 rfl (lv_at hl 0 rfl) ?_
    refine m_get (v := .int (nI dd)) hx hb hts h7 hown hK hM 18 (by decide) (hts (.fieldLink RX7 174 "ConfigBeaconModel" "level" "I") (by decide +kernel)) (by show some (Value.int (τ.1 18)) = _; rw [h18]) dX7_asks_45 ?_
    refine lv_if_lt (tgt := 149) hx hb dX7_asks_48 (by decide) (fun c_7 => absurd c_7 (nI_pos (by omega))) (fun _ => ?_)
    refine lv_aload_n hx hb dX7_asks_51 rfl (lv_at hl 0 rfl) ?_
    refine m_get (v := .ref (ad 17)) hx hb hts h7 hown hK hM 17 (by decide) (hts (.fieldLink RX7 54 "ConfigBeaconModel" "steps" "[I") (by decide +kernel)) rfl dX7_asks_52 ?_
    refine lv_aload_n hx hb dX7_asks_55 rfl (lv_at hl 0 rfl) ?_
    refine m_get (v := .int (nI dd)) hx hb hts h7 hown hK hM 18 (by decide) (hts (.fieldLink RX7 174 "ConfigBeaconModel" "level" "I") (by decide +kernel)) (by show some (Value.int (τ.1 18)) = _; rw [h18]) dX7_asks_56 ?_
    refine m_ald hx hb hK hM 17 (by decide) (n := 16) rfl dd rfl (by omega) (by decide) dX7_asks_59 (v := 1) h17 ?_
    refine lv_istore (lv' := [(4, .int 1), (0, .ref M), (1, .int (nI c9)), (2, .int (nI b0)), (3, .int (atI w))]) hx hb dX7_asks_60 hl (by decide) rfl (fun ls hl => ?_)
    refine lv_iload hx hb dX7_asks_62 (lv_at hl 0 rfl) ?_
    refine lv_if_ne (tgt := 82) hx hb dX7_asks_64 (by decide) (fun _ => ?_) (fun c_8 => absurd c_8 (by decide))
    refine lv_iload hx hb dX7_asks_82 (lv_at hl 0 rfl) ?_
    refine lv_iconst (v := 1) hx hb dX7_asks_84 (by decide) ?_
    refine lv_icmp_ne (tgt := 103) hx hb dX7_asks_85 (by decide) (fun c_9 => absurd c_9 (by decide)) (fun _ => ?_)
    refine lv_aload_n hx hb dX7_asks_88 rfl (lv_at hl 1 rfl) ?_
    refine m_get (v := .ref (ad 15)) hx hb hts h7 hown hK hM 15 (by decide) (hts (.fieldLink RX7 47 "ConfigBeaconModel" "theirs" "[I") (by decide +kernel)) rfl dX7_asks_89 ?_
    refine lv_aload_n hx hb dX7_asks_92 rfl (lv_at hl 1 rfl) ?_
    refine m_get (v := .int (nI dd)) hx hb hts h7 hown hK hM 18 (by decide) (hts (.fieldLink RX7 174 "ConfigBeaconModel" "level" "I") (by decide +kernel)) (by show some (Value.int (τ.1 18)) = _; rw [h18]) dX7_asks_93 ?_
    refine m_ald hx hb hK hM 15 (by decide) (n := 16) rfl dd rfl (by omega) (by decide) dX7_asks_96 (v := e9) h15 ?_
    refine xr_call (va_runS (As := [.int e9]) (rest := []) ⟨hx, hb, hml, hown, hts⟩ (c_X7_secondOf l D cA e9) (va_cwS 1 hts gX7_asks_X7_secondOf rfl rfl rfl (by decide +kernel) ⟨Nat.le_of_ble_eq_true rfl, Nat.le_of_ble_eq_true rfl⟩) (xPS hK trivial) rfl rfl hl.1 rfl (lv_room (Nat.le_of_ble_eq_true rfl)) dX7_asks_97 ⟨Nat.le_of_ble_eq_true rfl, Nat.le_of_ble_eq_true rfl⟩) ?_
    refine lv_goto (tgt := 104) hx hb dX7_asks_100 (by decide) ?_
    refine lv_istore (lv' := [(5, .int (dS e9)), (4, .int 1), (0, .ref M), (1, .int (nI c9)), (2, .int (nI b0)), (3, .int (atI w))]) hx hb dX7_asks_104 hl (by decide) rfl (fun ls hl => ?_)
    refine lv_aload_n hx hb dX7_asks_106 rfl (lv_at hl 2 rfl) ?_
    refine m_get (v := .ref (ad 17)) hx hb hts h7 hown hK hM 17 (by decide) (hts (.fieldLink RX7 54 "ConfigBeaconModel" "steps" "[I") (by decide +kernel)) rfl dX7_asks_107 ?_
    refine lv_aload_n hx hb dX7_asks_110 rfl (lv_at hl 2 rfl) ?_
    refine m_get (v := .int (nI dd)) hx hb hts h7 hown hK hM 18 (by decide) (hts (.fieldLink RX7 174 "ConfigBeaconModel" "level" "I") (by decide +kernel)) (by show some (Value.int (τ.1 18)) = _; rw [h18]) dX7_asks_111 ?_
    refine lv_dup2_11 hx hb dX7_asks_114 rfl rfl ?_
    refine m_ald hx hb hK hM 17 (by decide) (n := 16) rfl dd rfl (by omega) (by decide) dX7_asks_115 (v := 1) h17 ?_
    refine lv_iconst (v := 1) hx hb dX7_asks_116 (by decide) ?_
    refine xe_iadd hx hb (show (1 : Int32) + 1 = 2 from by decide) dX7_asks_117 ?_
    refine m_ast hx hb hK hM hS 17 (by decide) (n := 16) rfl dd rfl (by omega) (by decide) dX7_asks_118 (fun H locs hM hS => ?_)
    refine lv_iload hx hb dX7_asks_119 (lv_at hl 1 rfl) ?_
    refine lv_iconst (v := 2) hx hb dX7_asks_121 (by decide) ?_
    refine lv_icmp_ne (tgt := 132) hx hb dX7_asks_122 (by decide) (fun _ => ?_) (fun c_10 => absurd c_10 (by decide))
    refine lv_iload hx hb dX7_asks_132 (lv_at hl 0 rfl) ?_
    refine lv_iconst (v := (-1)) hx hb dX7_asks_134 (by decide) ?_
    refine lv_icmp_eq (tgt := 146) hx hb dX7_asks_135 (by decide) (fun c_11 => ?_) (fun c_11 => ?_)
    · refine lv_goto (tgt := 37) hx hb dX7_asks_146 (by decide) ?_
      exact hA c_11 h6 _ _ _ hM hS (lv_sub hl [2, 3, 4, 5] rfl)
    · obtain ⟨f9, hf9, ef9⟩ := okS_of (hv.resolve_left c_11)
      refine lv_aload_n hx hb dX7_asks_138 rfl (lv_at hl 2 rfl) ?_
      refine lv_iload_n hx hb dX7_asks_139 rfl (lv_at hl 3 rfl) ?_
      refine lv_iload hx hb dX7_asks_140 (lv_at hl 0 rfl) ?_
      refine xe_top ef9 ?_
      refine lv_iload_n hx hb dX7_asks_142 rfl (lv_at hl 5 rfl) ?_
      refine xw_calln (va_runV (As := [.int (nI c9), .int (nI f9), .int (atI w)]) (rest := []) ⟨hx, hb, hml, hown, hts⟩ (c_X7_needs l D cA A M ad (sa τ 17 dd 2) c9 f9 w nL h6 hL2 hc hf9 hw (dd + 1) (by rw [lvI_q]; exact h18) (fun _ => ⟨by omega, by omega⟩) (fun _ _ _ h => by have h := cnU_room hf9 h; have h2 : cnU (τ.1 21) = dd + 1 := hcn; have h3 : cnU (τ.1 21) < 16 := h; omega)) (cwV 3 hts gX7_asks_X7_needs rfl rfl rfl (by decide +kernel) ⟨Nat.le_of_ble_eq_true rfl, Nat.le_of_ble_eq_true rfl⟩) (xPV hK hM.1 rfl hM) rfl rfl hl.1 rfl (lv_room (Nat.le_of_ble_eq_true rfl)) dX7_asks_143 ⟨Nat.le_of_ble_eq_true rfl, Nat.le_of_ble_eq_true rfl⟩) hS (fun _ _ h => h) (fun _ h => h) (fun H locs hM _ _ hS => ?_)
      refine lv_goto (tgt := 37) hx hb dX7_asks_146 (by decide) ?_
      exact hB f9 hf9 ef9 ((nedS_6 _ _ _ _ _ _).trans h6) _ _ _ hM hS (lv_sub hl [2, 3, 4, 5] rfl)
  · intro τ dd b h23 h18 hd16 hb9 h17 h14 hA h6 H locs ls hM hS hl
    refine lv_aload_n hx hb dX7_asks_37 rfl (lv_at hl 0 rfl) ?_
    refine m_get (v := .int 0) hx hb hts h7 hown hK hM 23 (by decide) (hts (.fieldLink RX7 159 "ConfigBeaconModel" "status" "I") (by decide +kernel)) (by show some (Value.int (τ.1 23)) = _; rw [h23]) dX7_asks_38 ?_
    refine lv_if_ne (tgt := 149) hx hb dX7_asks_41 (by decide) (fun c_12 => absurd c_12 (by decide)) (fun _ => ?_)
    refine lv_aload_n hx hb dX7_asks_44 rfl (lv_at hl 0 rfl) ?_
    refine m_get (v := .int (nI dd)) hx hb hts h7 hown hK hM 18 (by decide) (hts (.fieldLink RX7 174 "ConfigBeaconModel" "level" "I") (by decide +kernel)) (by show some (Value.int (τ.1 18)) = _; rw [h18]) dX7_asks_45 ?_
    refine lv_if_lt (tgt := 149) hx hb dX7_asks_48 (by decide) (fun c_13 => absurd c_13 (nI_pos (by omega))) (fun _ => ?_)
    refine lv_aload_n hx hb dX7_asks_51 rfl (lv_at hl 0 rfl) ?_
    refine m_get (v := .ref (ad 17)) hx hb hts h7 hown hK hM 17 (by decide) (hts (.fieldLink RX7 54 "ConfigBeaconModel" "steps" "[I") (by decide +kernel)) rfl dX7_asks_52 ?_
    refine lv_aload_n hx hb dX7_asks_55 rfl (lv_at hl 0 rfl) ?_
    refine m_get (v := .int (nI dd)) hx hb hts h7 hown hK hM 18 (by decide) (hts (.fieldLink RX7 174 "ConfigBeaconModel" "level" "I") (by decide +kernel)) (by show some (Value.int (τ.1 18)) = _; rw [h18]) dX7_asks_56 ?_
    refine m_ald hx hb hK hM 17 (by decide) (n := 16) rfl dd rfl (by omega) (by decide) dX7_asks_59 (v := 2) h17 ?_
    refine lv_istore (lv' := [(4, .int 2), (0, .ref M), (1, .int (nI c9)), (2, .int (nI b0)), (3, .int (atI w))]) hx hb dX7_asks_60 hl (by decide) rfl (fun ls hl => ?_)
    refine lv_iload hx hb dX7_asks_62 (lv_at hl 0 rfl) ?_
    refine lv_if_ne (tgt := 82) hx hb dX7_asks_64 (by decide) (fun _ => ?_) (fun c_14 => absurd c_14 (by decide))
    refine lv_iload hx hb dX7_asks_82 (lv_at hl 0 rfl) ?_
    refine lv_iconst (v := 1) hx hb dX7_asks_84 (by decide) ?_
    refine lv_icmp_ne (tgt := 103) hx hb dX7_asks_85 (by decide) (fun _ => ?_) (fun c_15 => absurd c_15 (by decide))
    refine lv_iconst (v := (-1)) hx hb dX7_asks_103 (by decide) ?_
    refine lv_istore (lv' := [(5, .int (-1)), (4, .int 2), (0, .ref M), (1, .int (nI c9)), (2, .int (nI b0)), (3, .int (atI w))]) hx hb dX7_asks_104 hl (by decide) rfl (fun ls hl => ?_)
    refine lv_aload_n hx hb dX7_asks_106 rfl (lv_at hl 2 rfl) ?_
    refine m_get (v := .ref (ad 17)) hx hb hts h7 hown hK hM 17 (by decide) (hts (.fieldLink RX7 54 "ConfigBeaconModel" "steps" "[I") (by decide +kernel)) rfl dX7_asks_107 ?_
    refine lv_aload_n hx hb dX7_asks_110 rfl (lv_at hl 2 rfl) ?_
    refine m_get (v := .int (nI dd)) hx hb hts h7 hown hK hM 18 (by decide) (hts (.fieldLink RX7 174 "ConfigBeaconModel" "level" "I") (by decide +kernel)) (by show some (Value.int (τ.1 18)) = _; rw [h18]) dX7_asks_111 ?_
    refine lv_dup2_11 hx hb dX7_asks_114 rfl rfl ?_
    refine m_ald hx hb hK hM 17 (by decide) (n := 16) rfl dd rfl (by omega) (by decide) dX7_asks_115 (v := 2) h17 ?_
    refine lv_iconst (v := 1) hx hb dX7_asks_116 (by decide) ?_
    refine xe_iadd hx hb (show (2 : Int32) + 1 = 3 from by decide) dX7_asks_117 ?_
    refine m_ast hx hb hK hM hS 17 (by decide) (n := 16) rfl dd rfl (by omega) (by decide) dX7_asks_118 (fun H locs hM hS => ?_)
    refine lv_iload hx hb dX7_asks_119 (lv_at hl 1 rfl) ?_
    refine lv_iconst (v := 2) hx hb dX7_asks_121 (by decide) ?_
    refine lv_icmp_ne (tgt := 132) hx hb dX7_asks_122 (by decide) (fun c_16 => absurd c_16 (by decide)) (fun _ => ?_)
    refine lv_aload_n hx hb dX7_asks_125 rfl (lv_at hl 2 rfl) ?_
    refine xw_calln (va_runV (As := []) (rest := []) ⟨hx, hb, hml, hown, hts⟩ (c_X7_finds l D cA A M ad (sa τ 17 dd 3) dd b hb9 hd16 h18 (by show mup τ.2.1 17 dd 3 14 dd = nI b; simp [mup, h14])) (cwV 0 hts gX7_asks_X7_finds rfl rfl rfl (by decide +kernel) ⟨Nat.le_of_ble_eq_true rfl, Nat.le_of_ble_eq_true rfl⟩) (xPV hK hM.1 rfl hM) rfl rfl hl.1 rfl (lv_room (Nat.le_of_ble_eq_true rfl)) dX7_asks_126 ⟨Nat.le_of_ble_eq_true rfl, Nat.le_of_ble_eq_true rfl⟩) hS (fun _ _ h => h) (fun _ h => h) (fun H locs hM _ _ hS => ?_)
    refine lv_goto (tgt := 146) hx hb dX7_asks_129 (by decide) ?_
    refine lv_goto (tgt := 37) hx hb dX7_asks_146 (by decide) ?_
    exact hA ((fndS_6 _ _ _).trans h6) _ _ _ hM hS (lv_sub hl [2, 3, 4, 5] rfl)
  · exact ⟨(((((hp.sg 20 _ (by decide)).sg 21 _ (by decide)).sg 22 _ (by decide)).sg 23 _ (by decide)).sg 24 _ (by decide)).sg 18 _ (by decide), rfl, ⟨rfl, rfl, rfl, fun j hj h => by have h : tbF 0 j = true := h; rw [tb_0 hj] at h; cases h⟩, rfl, rfl, (show (-1 : Int32) = lvI 0 by decide), cnU_0⟩
  · intro σ2 P h6 H locs ls hM hS hl
    obtain ⟨q1, q2, q3, q4, q5⟩ := P
    have kn := (ev_keep (decE ρ.2.1 c9 w nL) hdec 17 b0 (0, 0, 0, fun _ => 0) hb0).2
    cases hE : (akE ρ c9 w nL b0).2 with
    | none =>
      obtain ⟨⟨s1, s2, s3, s4⟩, o2, o3, o4, -⟩ := q4 hE
      have hv : σ2.2.2 19 b0 = akV (akE ρ c9 w nL b0) b0 := (s4 b0 hb0 (kn hE).1).trans (akV_n hE b0).symm
      refine lv_aload_n hx hb dX7_asks_37 rfl (lv_at hl 0 rfl) ?_
      refine m_get (v := .int 0) hx hb hts h7 hown hK hM 23 (by decide) (hts (.fieldLink RX7 159 "ConfigBeaconModel" "status" "I") (by decide +kernel)) (by show some (Value.int (σ2.1 23)) = _; rw [o2]) dX7_asks_38 ?_
      refine lv_if_ne (tgt := 149) hx hb dX7_asks_41 (by decide) (fun c_17 => absurd c_17 (by decide)) (fun _ => ?_)
      refine lv_aload_n hx hb dX7_asks_44 rfl (lv_at hl 0 rfl) ?_
      refine m_get (v := .int (-1)) hx hb hts h7 hown hK hM 18 (by decide) (hts (.fieldLink RX7 174 "ConfigBeaconModel" "level" "I") (by decide +kernel)) (by show some (Value.int (σ2.1 18)) = _; rw [o4]; rfl) dX7_asks_45 ?_
      refine lv_if_lt (tgt := 149) hx hb dX7_asks_48 (by decide) (fun _ => ?_) (fun c_18 => absurd c_18 (by decide))
      refine lv_aload_n hx hb dX7_asks_149 rfl (lv_at hl 0 rfl) ?_
      refine m_get (v := .int 0) hx hb hts h7 hown hK hM 23 (by decide) (hts (.fieldLink RX7 159 "ConfigBeaconModel" "status" "I") (by decide +kernel)) (by show some (Value.int (σ2.1 23)) = _; rw [o2]) dX7_asks_150 ?_
      refine lv_if_ne (tgt := 165) hx hb dX7_asks_153 (by decide) (fun c_19 => absurd c_19 (by decide)) (fun _ => ?_)
      refine lv_aload_n hx hb dX7_asks_156 rfl (lv_at hl 0 rfl) ?_
      refine m_get (v := .ref (ad 19)) hx hb hts h7 hown hK hM 19 (by decide) (hts (.fieldLink RX7 57 "ConfigBeaconModel" "values" "[J") (by decide +kernel)) rfl dX7_asks_157 ?_
      refine lv_iload_n hx hb dX7_asks_160 rfl (lv_at hl 2 rfl) ?_
      refine m_aldL hx hb hK hM 19 (by decide) (n := 16) rfl b0 rfl (by omega) (by decide) dX7_asks_161 (v := σ2.2.2 19 b0) rfl ?_
      refine lv_goto (tgt := 166) hx hb dX7_asks_162 (by decide) ?_
      exact xw_lret hx hb hr hlocks hS ⟨by rw [hv], σ2, hM, q1, q2, q3, o2.trans (akT_n hE).symm, o3.trans (akQ_n hE).symm⟩ (Nat.le_refl _) (Nat.le_refl _) dX7_asks_166
    | some x9 =>
      obtain ⟨n1, n2, n3⟩ := q5 x9 hE
      refine lv_aload_n hx hb dX7_asks_37 rfl (lv_at hl 0 rfl) ?_
      refine m_get (v := .int x9.1) hx hb hts h7 hown hK hM 23 (by decide) (hts (.fieldLink RX7 159 "ConfigBeaconModel" "status" "I") (by decide +kernel)) (by show some (Value.int (σ2.1 23)) = _; rw [n1]) dX7_asks_38 ?_
      refine lv_if_ne (tgt := 149) hx hb dX7_asks_41 (by decide) (fun _ => ?_) (fun c_20 => absurd c_20 n3)
      refine lv_aload_n hx hb dX7_asks_149 rfl (lv_at hl 0 rfl) ?_
      refine m_get (v := .int x9.1) hx hb hts h7 hown hK hM 23 (by decide) (hts (.fieldLink RX7 159 "ConfigBeaconModel" "status" "I") (by decide +kernel)) (by show some (Value.int (σ2.1 23)) = _; rw [n1]) dX7_asks_150 ?_
      refine lv_if_ne (tgt := 165) hx hb dX7_asks_153 (by decide) (fun _ => ?_) (fun c_21 => absurd c_21 n3)
      refine lv_lconst (v := 0) hx hb dX7_asks_165 (by decide) ?_
      exact xw_lret hx hb hr hlocks hS ⟨by rw [akV_s hE], σ2, hM, q1, q2, q3, n1.trans (akT_s hE).symm, n2.trans (akQ_s hE).symm⟩ (Nat.le_refl _) (Nat.le_refl _) dX7_asks_166
