set_option maxHeartbeats 4000000 in
set_option maxRecDepth 100000 in
theorem c_X7_needs (l : Launch) (D : va_G) (cA : Nat → ClassId) (A : Nat → Prop) (M : Nat) (ad : Nat → Nat) (σ : MS) (c9 : Nat) (b : Nat) (w : Option Nat) (nL : Nat) (hL : σ.1 6 = nI nL) (hL2 : nL ≤ 8) (hc : c9 < 12) (hb9 : b < 16) (hw : ∀ v, w = some v → v ≤ 512) (d : Nat) (hd : σ.1 18 = lvI d) (hkn : tbF (σ.1 20) b = true → 1 ≤ d ∧ d ≤ 16) (hpu : ∀ j, tbF (σ.1 20) b = false → decO σ.2.1 c9 b w nL = some j → tbF (σ.1 21) b = false → d < 16) : Met l yX7_needs wsX7_needs (rmK 4 0 0) (xP D cA [.ref M, .int (nI c9), .int (nI b), .int (atI w)] (MR D cA A M ad σ)) (xW (xV none (MR D cA A M ad (nedS σ nL c9 b w d))) A) 0 0 A := by
  refine Met.ofW (cc := cX7_needs) (maxL := 5) (ret := none) (by decide) rfl ?_
  intro p e s m args below meth c s₁ B hml hv
  obtain ⟨rfl, hK, hI⟩ := hv
  have hx := B.exec
  have hb := B.bytes
  have hr := B.returns
  have hts := atoms_spec (ws := wsX7_needs) B.pre
  have hown : s.vm.findClass RX7 = some m.cls := findClass_of_methodNamed B.named
  have hlocks := B.notSynchronized
  have hl := lv_entry ([.ref M, .int (nI c9), .int (nI b), .int (atI w)]) (n := 5) (Nat.le_of_ble_eq_true rfl)
  rw [lg_entry_eq]
  generalize (lg_sl ([.ref M, .int (nI c9), .int (nI b), .int (atI w)]) ++ List.replicate (5 - (lg_sl ([.ref M, .int (nI c9), .int (nI b), .int (atI w)])).length) Slot.unset).toArray = ls at hl ⊢
  have hl : lv_has ls 5 [(0, .ref M), (1, .int (nI c9)), (2, .int (nI b)), (3, .int (atI w))] := hl
  have hM : MR D cA A M ad σ s.heap := hI
  have h7 : ∀ w ∈ wsX70, w ∈ wsX7_needs := fun _ h => List.mem_cons_of_mem _ (List.mem_append_right _ h)
  have hS : va_S A s.heap s.heap [] := va_S.rf
  refine lv_aload_n hx hb dX7_needs_0 rfl (lv_at hl 0 rfl) ?_
  refine lv_iload_n hx hb dX7_needs_1 rfl (lv_at hl 1 rfl) ?_
  refine lv_iload_n hx hb dX7_needs_2 rfl (lv_at hl 2 rfl) ?_
  refine lv_iload_n hx hb dX7_needs_3 rfl (lv_at hl 3 rfl) ?_
  refine xr_call (va_runV (As := [.int (nI c9), .int (nI b), .int (atI w)]) (rest := []) ⟨hx, hb, hml, hown, hts⟩ (c_X7_deciding l D cA A M ad σ c9 b w nL hL hL2 (by omega) (by omega) hw) (cwV 3 hts gX7_needs_X7_deciding rfl rfl rfl (by decide +kernel) ⟨Nat.le_of_ble_eq_true rfl, Nat.le_of_ble_eq_true rfl⟩) (xPV hK hM.1 rfl hM) rfl rfl hl.1 rfl (lv_room (Nat.le_of_ble_eq_true rfl)) dX7_needs_4 ⟨Nat.le_of_ble_eq_true rfl, Nat.le_of_ble_eq_true rfl⟩) ?_
  refine lv_istore (lv' := [(4, .int (loI (decO σ.2.1 c9 b w nL))), (0, .ref M), (1, .int (nI c9)), (2, .int (nI b)), (3, .int (atI w))]) hx hb dX7_needs_7 hl (by decide) rfl (fun ls hl => ?_)
  refine lv_aload_n hx hb dX7_needs_9 rfl (lv_at hl 1 rfl) ?_
  refine lv_dup hx hb dX7_needs_10 rfl ?_
  refine m_get (v := .int (σ.1 22)) hx hb hts h7 hown hK hM 22 (by decide) (hts (.fieldLink RX7 168 "ConfigBeaconModel" "used" "I") (by decide +kernel)) rfl dX7_needs_11 ?_
  refine lv_iconst (v := 1) hx hb dX7_needs_14 (by decide) ?_
  refine lv_iload_n hx hb dX7_needs_15 rfl (lv_at hl 3 rfl) ?_
  refine lv_ishl hx hb dX7_needs_16 ?_
  refine xe_top (show ((1 : Int32) <<< ((nI b) &&& 31)) = (bitI b) from rfl) ?_
  refine lv_ior hx hb dX7_needs_17 ?_
  refine m_put hx hb hts h7 hown hK hM hS 22 (by decide) (by decide) (hts (.fieldLink RX7 168 "ConfigBeaconModel" "used" "I") (by decide +kernel)) rfl rfl dX7_needs_18 (fun H locs hM hS => ?_)
  refine lv_aload_n hx hb dX7_needs_21 rfl (lv_at hl 1 rfl) ?_
  refine m_get (v := .int (σ.1 20)) hx hb hts h7 hown hK hM 20 (by decide) (hts (.fieldLink RX7 171 "ConfigBeaconModel" "known" "I") (by decide +kernel)) rfl dX7_needs_22 ?_
  refine lv_iload_n hx hb dX7_needs_25 rfl (lv_at hl 3 rfl) ?_
  refine lv_ishr hx hb dX7_needs_26 ?_
  refine lv_iconst (v := 1) hx hb dX7_needs_27 (by decide) ?_
  refine lv_iand hx hb dX7_needs_28 ?_
  refine lv_iconst (v := 1) hx hb dX7_needs_29 (by decide) ?_
  refine lv_icmp_ne (tgt := 54) hx hb dX7_needs_30 (by decide) (fun c_1 => ?_) (fun c_1 => ?_)
  · have k_c_1 : tbF (σ.1 20) b = false := decide_eq_false c_1
    refine lv_iload hx hb dX7_needs_54 (lv_at hl 0 rfl) ?_
    refine lv_iconst (v := (-1)) hx hb dX7_needs_56 (by decide) ?_
    refine lv_icmp_eq (tgt := 72) hx hb dX7_needs_57 (by decide) (fun c_2 => ?_) (fun c_2 => ?_)
    · have e_c_2 : (decO σ.2.1 c9 b w nL) = none := loI_none (fun j q => by have := (decO_lt q).1; omega) c_2
      refine lv_aload_n hx hb dX7_needs_72 rfl (lv_at hl 1 rfl) ?_
      refine lv_iload hx hb dX7_needs_73 (lv_at hl 0 rfl) ?_
      refine lv_iconst (v := (-1)) hx hb dX7_needs_75 (by decide) ?_
      refine lv_icmp_ne (tgt := 83) hx hb dX7_needs_76 (by decide) (fun c_3 => absurd c_2 c_3) (fun _ => ?_)
      refine lv_iconst (v := 1) hx hb dX7_needs_79 (by decide) ?_
      refine lv_goto (tgt := 84) hx hb dX7_needs_80 (by decide) ?_
      refine lv_iload_n hx hb dX7_needs_84 rfl (lv_at hl 3 rfl) ?_
      refine xw_calln (va_runV (As := [.int 1, .int (nI b)]) (rest := []) ⟨hx, hb, hml, hown, hts⟩ (c_X7_fails l D cA A M ad (sg σ 22 ((σ.1 22) ||| (bitI b))) 1 (nI b)) (cwV 2 hts gX7_needs_X7_fails rfl rfl rfl (by decide +kernel) ⟨Nat.le_of_ble_eq_true rfl, Nat.le_of_ble_eq_true rfl⟩) (xPV hK hM.1 rfl hM) rfl rfl hl.1 rfl (lv_room (Nat.le_of_ble_eq_true rfl)) dX7_needs_85 ⟨Nat.le_of_ble_eq_true rfl, Nat.le_of_ble_eq_true rfl⟩) hS (fun _ _ h => h) (fun _ h => h) (fun H locs hM _ _ hS => ?_)
      refine lv_goto (tgt := 176) hx hb dX7_needs_88 (by decide) ?_
      exact xw_vret hx hb hr hlocks hS ⟨rfl, by rw [nedS_m k_c_1 e_c_2]; exact hM⟩ (Nat.le_refl _) (Nat.le_refl _) dX7_needs_176
    · obtain ⟨j9, hj9⟩ := loI_some c_2
      have hj9l := (decO_lt hj9).1
      refine lv_aload_n hx hb dX7_needs_60 rfl (lv_at hl 1 rfl) ?_
      refine m_get (v := .int (σ.1 21)) hx hb hts h7 hown hK hM 21 (by decide) (hts (.fieldLink RX7 177 "ConfigBeaconModel" "working" "I") (by decide +kernel)) rfl dX7_needs_61 ?_
      refine lv_iload_n hx hb dX7_needs_64 rfl (lv_at hl 3 rfl) ?_
      refine lv_ishr hx hb dX7_needs_65 ?_
      refine lv_iconst (v := 1) hx hb dX7_needs_66 (by decide) ?_
      refine lv_iand hx hb dX7_needs_67 ?_
      refine lv_iconst (v := 1) hx hb dX7_needs_68 (by decide) ?_
      refine lv_icmp_ne (tgt := 91) hx hb dX7_needs_69 (by decide) (fun c_4 => ?_) (fun c_4 => ?_)
      · have k_c_4 : tbF (σ.1 21) b = false := decide_eq_false c_4
        have hd16 := hpu j9 k_c_1 hj9 k_c_4
        refine lv_aload_n hx hb dX7_needs_91 rfl (lv_at hl 1 rfl) ?_
        refine lv_dup hx hb dX7_needs_92 rfl ?_
        refine m_get (v := .int (lvI d)) hx hb hts h7 hown hK hM 18 (by decide) (hts (.fieldLink RX7 174 "ConfigBeaconModel" "level" "I") (by decide +kernel)) (by show some (Value.int (σ.1 18)) = _; rw [hd]) dX7_needs_93 ?_
        refine lv_iconst (v := 1) hx hb dX7_needs_96 (by decide) ?_
        refine xe_iadd hx hb (lvI_s d) dX7_needs_97 ?_
        refine m_put hx hb hts h7 hown hK hM hS 18 (by decide) (by decide) (hts (.fieldLink RX7 174 "ConfigBeaconModel" "level" "I") (by decide +kernel)) rfl rfl dX7_needs_98 (fun H locs hM hS => ?_)
        refine lv_aload_n hx hb dX7_needs_101 rfl (lv_at hl 1 rfl) ?_
        refine lv_dup hx hb dX7_needs_102 rfl ?_
        refine m_get (v := .int (σ.1 21)) hx hb hts h7 hown hK hM 21 (by decide) (hts (.fieldLink RX7 177 "ConfigBeaconModel" "working" "I") (by decide +kernel)) rfl dX7_needs_103 ?_
        refine lv_iconst (v := 1) hx hb dX7_needs_106 (by decide) ?_
        refine lv_iload_n hx hb dX7_needs_107 rfl (lv_at hl 3 rfl) ?_
        refine lv_ishl hx hb dX7_needs_108 ?_
        refine xe_top (show ((1 : Int32) <<< ((nI b) &&& 31)) = (bitI b) from rfl) ?_
        refine lv_ior hx hb dX7_needs_109 ?_
        refine m_put hx hb hts h7 hown hK hM hS 21 (by decide) (by decide) (hts (.fieldLink RX7 177 "ConfigBeaconModel" "working" "I") (by decide +kernel)) rfl rfl dX7_needs_110 (fun H locs hM hS => ?_)
        refine lv_aload_n hx hb dX7_needs_113 rfl (lv_at hl 1 rfl) ?_
        refine m_get (v := .ref (ad 14)) hx hb hts h7 hown hK hM 14 (by decide) (hts (.fieldLink RX7 44 "ConfigBeaconModel" "waiting" "[I") (by decide +kernel)) rfl dX7_needs_114 ?_
        refine lv_aload_n hx hb dX7_needs_117 rfl (lv_at hl 1 rfl) ?_
        refine m_get (v := .int (nI d)) hx hb hts h7 hown hK hM 18 (by decide) (hts (.fieldLink RX7 174 "ConfigBeaconModel" "level" "I") (by decide +kernel)) rfl dX7_needs_118 ?_
        refine lv_iload_n hx hb dX7_needs_121 rfl (lv_at hl 3 rfl) ?_
        refine m_ast hx hb hK hM hS 14 (by decide) (n := 16) rfl d rfl (by omega) (by decide) dX7_needs_122 (fun H locs hM hS => ?_)
        refine lv_aload_n hx hb dX7_needs_123 rfl (lv_at hl 1 rfl) ?_
        refine m_get (v := .ref (ad 15)) hx hb hts h7 hown hK hM 15 (by decide) (hts (.fieldLink RX7 47 "ConfigBeaconModel" "theirs" "[I") (by decide +kernel)) rfl dX7_needs_124 ?_
        refine lv_aload_n hx hb dX7_needs_127 rfl (lv_at hl 1 rfl) ?_
        refine m_get (v := .int (nI d)) hx hb hts h7 hown hK hM 18 (by decide) (hts (.fieldLink RX7 174 "ConfigBeaconModel" "level" "I") (by decide +kernel)) rfl dX7_needs_128 ?_
        refine lv_aload_n hx hb dX7_needs_131 rfl (lv_at hl 1 rfl) ?_
        refine lv_iload_n hx hb dX7_needs_132 rfl (lv_at hl 2 rfl) ?_
        refine lv_iload hx hb dX7_needs_133 (lv_at hl 0 rfl) ?_
        refine xe_top (show (loI (decO σ.2.1 c9 b w nL)) = nI j9 from by rw [hj9]; rfl) ?_
        refine lv_iload_n hx hb dX7_needs_135 rfl (lv_at hl 3 rfl) ?_
        refine xr_call (va_runS (As := [.int (nI j9), .int (nI b)]) (rest := [.int (nI c9), .ref M, .int (nI d), .ref (ad 15)]) ⟨hx, hb, hml, hown, hts⟩ (c_X7_cell l D cA j9 b) (va_cwS 2 hts gX7_needs_X7_cell rfl rfl rfl (by decide +kernel) ⟨Nat.le_of_ble_eq_true rfl, Nat.le_of_ble_eq_true rfl⟩) (xPS hK trivial) rfl rfl hl.1 rfl (lv_room (Nat.le_of_ble_eq_true rfl)) dX7_needs_136 ⟨Nat.le_of_ble_eq_true rfl, Nat.le_of_ble_eq_true rfl⟩) ?_
        refine lv_iload_n hx hb dX7_needs_139 rfl (lv_at hl 4 rfl) ?_
        refine xr_call (va_runV (As := [.int (nI c9), .int (nI (16 * j9 + b)), .int (atI w)]) (rest := [.int (nI d), .ref (ad 15)]) ⟨hx, hb, hml, hown, hts⟩ (c_X7_shown l D cA A M ad (sa (sg (sg (sg σ 22 ((σ.1 22) ||| (bitI b))) 18 (nI d)) 21 ((σ.1 21) ||| (bitI b))) 14 d (nI b)) c9 (16 * j9 + b) w (by omega) (by omega) hw) (cwV 3 hts gX7_needs_X7_shown rfl rfl rfl (by decide +kernel) ⟨Nat.le_of_ble_eq_true rfl, Nat.le_of_ble_eq_true rfl⟩) (xPV hK hM.1 rfl hM) rfl rfl hl.1 rfl (lv_room (Nat.le_of_ble_eq_true rfl)) dX7_needs_140 ⟨Nat.le_of_ble_eq_true rfl, Nat.le_of_ble_eq_true rfl⟩) ?_
        refine xe_top (show (shwF (sa (sg (sg (sg σ 22 ((σ.1 22) ||| (bitI b))) 18 (nI d)) 21 ((σ.1 21) ||| (bitI b))) 14 d (nI b)).2.1 c9 (16 * j9 + b) w) = (shwF σ.2.1 c9 (16 * j9 + b) w) from rfl) ?_
        refine m_ast hx hb hK hM hS 15 (by decide) (n := 16) rfl d rfl (by omega) (by decide) dX7_needs_143 (fun H locs hM hS => ?_)
        refine lv_aload_n hx hb dX7_needs_144 rfl (lv_at hl 1 rfl) ?_
        refine m_get (v := .ref (ad 16)) hx hb hts h7 hown hK hM 16 (by decide) (hts (.fieldLink RX7 50 "ConfigBeaconModel" "sums" "[J") (by decide +kernel)) rfl dX7_needs_145 ?_
        refine lv_aload_n hx hb dX7_needs_148 rfl (lv_at hl 1 rfl) ?_
        refine m_get (v := .int (nI d)) hx hb hts h7 hown hK hM 18 (by decide) (hts (.fieldLink RX7 174 "ConfigBeaconModel" "level" "I") (by decide +kernel)) rfl dX7_needs_149 ?_
        refine lv_aload_n hx hb dX7_needs_152 rfl (lv_at hl 1 rfl) ?_
        refine m_get (v := .ref (ad 15)) hx hb hts h7 hown hK hM 15 (by decide) (hts (.fieldLink RX7 47 "ConfigBeaconModel" "theirs" "[I") (by decide +kernel)) rfl dX7_needs_153 ?_
        refine lv_aload_n hx hb dX7_needs_156 rfl (lv_at hl 1 rfl) ?_
        refine m_get (v := .int (nI d)) hx hb hts h7 hown hK hM 18 (by decide) (hts (.fieldLink RX7 174 "ConfigBeaconModel" "level" "I") (by decide +kernel)) rfl dX7_needs_157 ?_
        refine m_ald hx hb hK hM 15 (by decide) (n := 16) rfl d rfl (by omega) (by decide) dX7_needs_160 (v := (shwF σ.2.1 c9 (16 * j9 + b) w)) (by simp [sa, sg, mup]) ?_
        refine xr_call (va_runS (As := [.int (shwF σ.2.1 c9 (16 * j9 + b) w)]) (rest := [.int (nI d), .ref (ad 16)]) ⟨hx, hb, hml, hown, hts⟩ (c_X7_baseOf l D cA (shwF σ.2.1 c9 (16 * j9 + b) w)) (va_cwS 1 hts gX7_needs_X7_baseOf rfl rfl rfl (by decide +kernel) ⟨Nat.le_of_ble_eq_true rfl, Nat.le_of_ble_eq_true rfl⟩) (xPS hK trivial) rfl rfl hl.1 rfl (lv_room (Nat.le_of_ble_eq_true rfl)) dX7_needs_161 ⟨Nat.le_of_ble_eq_true rfl, Nat.le_of_ble_eq_true rfl⟩) ?_
        refine lv_i2l hx hb dX7_needs_164 rfl ?_
        refine m_astL hx hb hK hM hS 16 (by decide) (n := 16) rfl d rfl (by omega) (by decide) dX7_needs_165 (fun H locs hM hS => ?_)
        refine lv_aload_n hx hb dX7_needs_166 rfl (lv_at hl 1 rfl) ?_
        refine m_get (v := .ref (ad 17)) hx hb hts h7 hown hK hM 17 (by decide) (hts (.fieldLink RX7 54 "ConfigBeaconModel" "steps" "[I") (by decide +kernel)) rfl dX7_needs_167 ?_
        refine lv_aload_n hx hb dX7_needs_170 rfl (lv_at hl 1 rfl) ?_
        refine m_get (v := .int (nI d)) hx hb hts h7 hown hK hM 18 (by decide) (hts (.fieldLink RX7 174 "ConfigBeaconModel" "level" "I") (by decide +kernel)) rfl dX7_needs_171 ?_
        refine lv_iconst (v := 0) hx hb dX7_needs_174 (by decide) ?_
        refine m_ast hx hb hK hM hS 17 (by decide) (n := 16) rfl d rfl (by omega) (by decide) dX7_needs_175 (fun H locs hM hS => ?_)
        exact xw_vret hx hb hr hlocks hS ⟨rfl, by rw [nedS_p k_c_1 hj9 k_c_4]; exact hM⟩ (Nat.le_refl _) (Nat.le_refl _) dX7_needs_176
      · have k_c_4 : tbF (σ.1 21) b = true := decide_eq_true c_4
        refine lv_aload_n hx hb dX7_needs_72 rfl (lv_at hl 1 rfl) ?_
        refine lv_iload hx hb dX7_needs_73 (lv_at hl 0 rfl) ?_
        refine lv_iconst (v := (-1)) hx hb dX7_needs_75 (by decide) ?_
        refine lv_icmp_ne (tgt := 83) hx hb dX7_needs_76 (by decide) (fun _ => ?_) (fun c_5 => absurd c_5 c_2)
        refine lv_iconst (v := 2) hx hb dX7_needs_83 (by decide) ?_
        refine lv_iload_n hx hb dX7_needs_84 rfl (lv_at hl 3 rfl) ?_
        refine xw_calln (va_runV (As := [.int 2, .int (nI b)]) (rest := []) ⟨hx, hb, hml, hown, hts⟩ (c_X7_fails l D cA A M ad (sg σ 22 ((σ.1 22) ||| (bitI b))) 2 (nI b)) (cwV 2 hts gX7_needs_X7_fails rfl rfl rfl (by decide +kernel) ⟨Nat.le_of_ble_eq_true rfl, Nat.le_of_ble_eq_true rfl⟩) (xPV hK hM.1 rfl hM) rfl rfl hl.1 rfl (lv_room (Nat.le_of_ble_eq_true rfl)) dX7_needs_85 ⟨Nat.le_of_ble_eq_true rfl, Nat.le_of_ble_eq_true rfl⟩) hS (fun _ _ h => h) (fun _ h => h) (fun H locs hM _ _ hS => ?_)
        refine lv_goto (tgt := 176) hx hb dX7_needs_88 (by decide) ?_
        exact xw_vret hx hb hr hlocks hS ⟨rfl, by rw [nedS_c k_c_1 hj9 k_c_4]; exact hM⟩ (Nat.le_refl _) (Nat.le_refl _) dX7_needs_176
  · have k_c_1 : tbF (σ.1 20) b = true := decide_eq_true c_1
    have hk1 := hkn k_c_1
    refine lv_aload_n hx hb dX7_needs_33 rfl (lv_at hl 1 rfl) ?_
    refine m_get (v := .ref (ad 16)) hx hb hts h7 hown hK hM 16 (by decide) (hts (.fieldLink RX7 50 "ConfigBeaconModel" "sums" "[J") (by decide +kernel)) rfl dX7_needs_34 ?_
    refine lv_aload_n hx hb dX7_needs_37 rfl (lv_at hl 1 rfl) ?_
    refine m_get (v := .int (lvI d)) hx hb hts h7 hown hK hM 18 (by decide) (hts (.fieldLink RX7 174 "ConfigBeaconModel" "level" "I") (by decide +kernel)) (by show some (Value.int (σ.1 18)) = _; rw [hd]) dX7_needs_38 ?_
    refine lv_dup2_11 hx hb dX7_needs_41 rfl rfl ?_
    refine m_aldL hx hb hK hM 16 (by decide) (n := 16) rfl (d - 1) (lvI_p hk1.1) (by omega) (by decide) dX7_needs_42 (v := (σ.2.2 16 (d - 1))) rfl ?_
    refine lv_aload_n hx hb dX7_needs_43 rfl (lv_at hl 1 rfl) ?_
    refine m_get (v := .ref (ad 19)) hx hb hts h7 hown hK hM 19 (by decide) (hts (.fieldLink RX7 57 "ConfigBeaconModel" "values" "[J") (by decide +kernel)) rfl dX7_needs_44 ?_
    refine lv_iload_n hx hb dX7_needs_47 rfl (lv_at hl 3 rfl) ?_
    refine m_aldL hx hb hK hM 19 (by decide) (n := 16) rfl b rfl (by omega) (by decide) dX7_needs_48 (v := (σ.2.2 19 b)) rfl ?_
    refine lv_ladd hx hb dX7_needs_49 ?_
    refine m_astL hx hb hK hM hS 16 (by decide) (n := 16) rfl (d - 1) (lvI_p hk1.1) (by omega) (by decide) dX7_needs_50 (fun H locs hM hS => ?_)
    refine lv_goto (tgt := 176) hx hb dX7_needs_51 (by decide) ?_
    exact xw_vret hx hb hr hlocks hS ⟨rfl, by rw [nedS_k k_c_1]; exact hM⟩ (Nat.le_refl _) (Nat.le_refl _) dX7_needs_176
set_option maxHeartbeats 4000000 in
set_option maxRecDepth 100000 in
theorem c_X7_finds (l : Launch) (D : va_G) (cA : Nat → ClassId) (A : Nat → Prop) (M : Nat) (ad : Nat → Nat) (σ : MS)  (n b : Nat) (hb9 : b < 16) (hn : n < 16) (hd : σ.1 18 = nI n) (hwt : σ.2.1 14 n = nI b) : Met l yX7_finds wsX7_finds (rmK 0 0 0) (xP D cA [.ref M] (MR D cA A M ad σ)) (xW (xV none (MR D cA A M ad (fndS σ n b))) A) 0 0 A := by
  refine Met.ofW (cc := cX7_finds) (maxL := 2) (ret := none) (by decide) rfl ?_
  intro p e s m args below meth c s₁ B hml hv
  obtain ⟨rfl, hK, hI⟩ := hv
  have hx := B.exec
  have hb := B.bytes
  have hr := B.returns
  have hts := atoms_spec (ws := wsX7_finds) B.pre
  have hown : s.vm.findClass RX7 = some m.cls := findClass_of_methodNamed B.named
  have hlocks := B.notSynchronized
  have hl := lv_entry ([.ref M]) (n := 2) (Nat.le_of_ble_eq_true rfl)
  rw [lg_entry_eq]
  generalize (lg_sl ([.ref M]) ++ List.replicate (2 - (lg_sl ([.ref M])).length) Slot.unset).toArray = ls at hl ⊢
  have hl : lv_has ls 2 [(0, .ref M)] := hl
  have hM : MR D cA A M ad σ s.heap := hI
  have h7 : ∀ w ∈ wsX70, w ∈ wsX7_finds := fun _ h => List.mem_cons_of_mem _ (List.mem_append_right _ h)
  have hS : va_S A s.heap s.heap [] := va_S.rf
  refine lv_aload_n hx hb dX7_finds_0 rfl (lv_at hl 0 rfl) ?_
  refine m_get (v := .ref (ad 14)) hx hb hts h7 hown hK hM 14 (by decide) (hts (.fieldLink RX7 44 "ConfigBeaconModel" "waiting" "[I") (by decide +kernel)) rfl dX7_finds_1 ?_
  refine lv_aload_n hx hb dX7_finds_4 rfl (lv_at hl 0 rfl) ?_
  refine m_get (v := .int (nI n)) hx hb hts h7 hown hK hM 18 (by decide) (hts (.fieldLink RX7 174 "ConfigBeaconModel" "level" "I") (by decide +kernel)) (by show some (Value.int (σ.1 18)) = _; rw [hd]) dX7_finds_5 ?_
  refine m_ald hx hb hK hM 14 (by decide) (n := 16) rfl n rfl (by omega) (by decide) dX7_finds_8 (v := nI b) hwt ?_
  refine lv_istore_n (lv' := [(1, .int (nI b)), (0, .ref M)]) hx hb dX7_finds_9 rfl hl (by decide) rfl (fun ls hl => ?_)
  refine lv_aload_n hx hb dX7_finds_10 rfl (lv_at hl 1 rfl) ?_
  refine lv_dup hx hb dX7_finds_11 rfl ?_
  refine m_get (v := .int (σ.1 20)) hx hb hts h7 hown hK hM 20 (by decide) (hts (.fieldLink RX7 171 "ConfigBeaconModel" "known" "I") (by decide +kernel)) rfl dX7_finds_12 ?_
  refine lv_iconst (v := 1) hx hb dX7_finds_15 (by decide) ?_
  refine lv_iload_n hx hb dX7_finds_16 rfl (lv_at hl 0 rfl) ?_
  refine lv_ishl hx hb dX7_finds_17 ?_
  refine xe_top (show ((1 : Int32) <<< ((nI b) &&& 31)) = (bitI b) from rfl) ?_
  refine lv_ior hx hb dX7_finds_18 ?_
  refine m_put hx hb hts h7 hown hK hM hS 20 (by decide) (by decide) (hts (.fieldLink RX7 171 "ConfigBeaconModel" "known" "I") (by decide +kernel)) rfl rfl dX7_finds_19 (fun H locs hM hS => ?_)
  refine lv_aload_n hx hb dX7_finds_22 rfl (lv_at hl 1 rfl) ?_
  refine lv_dup hx hb dX7_finds_23 rfl ?_
  refine m_get (v := .int (σ.1 21)) hx hb hts h7 hown hK hM 21 (by decide) (hts (.fieldLink RX7 177 "ConfigBeaconModel" "working" "I") (by decide +kernel)) rfl dX7_finds_24 ?_
  refine lv_iconst (v := 1) hx hb dX7_finds_27 (by decide) ?_
  refine lv_iload_n hx hb dX7_finds_28 rfl (lv_at hl 0 rfl) ?_
  refine lv_ishl hx hb dX7_finds_29 ?_
  refine xe_top (show ((1 : Int32) <<< ((nI b) &&& 31)) = (bitI b) from rfl) ?_
  refine lv_iconst (v := (-1)) hx hb dX7_finds_30 (by decide) ?_
  refine lv_ixor hx hb dX7_finds_31 ?_
  refine lv_iand hx hb dX7_finds_32 ?_
  refine m_put hx hb hts h7 hown hK hM hS 21 (by decide) (by decide) (hts (.fieldLink RX7 177 "ConfigBeaconModel" "working" "I") (by decide +kernel)) rfl rfl dX7_finds_33 (fun H locs hM hS => ?_)
  refine lv_aload_n hx hb dX7_finds_36 rfl (lv_at hl 1 rfl) ?_
  refine m_get (v := .ref (ad 19)) hx hb hts h7 hown hK hM 19 (by decide) (hts (.fieldLink RX7 57 "ConfigBeaconModel" "values" "[J") (by decide +kernel)) rfl dX7_finds_37 ?_
  refine lv_iload_n hx hb dX7_finds_40 rfl (lv_at hl 0 rfl) ?_
  refine lv_aload_n hx hb dX7_finds_41 rfl (lv_at hl 1 rfl) ?_
  refine m_get (v := .ref (ad 16)) hx hb hts h7 hown hK hM 16 (by decide) (hts (.fieldLink RX7 50 "ConfigBeaconModel" "sums" "[J") (by decide +kernel)) rfl dX7_finds_42 ?_
  refine lv_aload_n hx hb dX7_finds_45 rfl (lv_at hl 1 rfl) ?_
  refine m_get (v := .int (nI n)) hx hb hts h7 hown hK hM 18 (by decide) (hts (.fieldLink RX7 174 "ConfigBeaconModel" "level" "I") (by decide +kernel)) (by show some (Value.int (σ.1 18)) = _; rw [hd]) dX7_finds_46 ?_
  refine m_aldL hx hb hK hM 16 (by decide) (n := 16) rfl n rfl (by omega) (by decide) dX7_finds_49 (v := (σ.2.2 16 n)) rfl ?_
  refine m_astL hx hb hK hM hS 19 (by decide) (n := 16) rfl b rfl (by omega) (by decide) dX7_finds_50 (fun H locs hM hS => ?_)
  refine lv_aload_n hx hb dX7_finds_51 rfl (lv_at hl 1 rfl) ?_
  refine lv_dup hx hb dX7_finds_52 rfl ?_
  refine m_get (v := .int (nI n)) hx hb hts h7 hown hK hM 18 (by decide) (hts (.fieldLink RX7 174 "ConfigBeaconModel" "level" "I") (by decide +kernel)) (by show some (Value.int (σ.1 18)) = _; rw [hd]) dX7_finds_53 ?_
  refine lv_iconst (v := 1) hx hb dX7_finds_56 (by decide) ?_
  refine lv_isub hx hb dX7_finds_57 ?_
  refine xe_top (show ((nI n) - 1) = (lvI n) from rfl) ?_
  refine m_put hx hb hts h7 hown hK hM hS 18 (by decide) (by decide) (hts (.fieldLink RX7 174 "ConfigBeaconModel" "level" "I") (by decide +kernel)) rfl rfl dX7_finds_58 (fun H locs hM hS => ?_)
  refine lv_aload_n hx hb dX7_finds_61 rfl (lv_at hl 1 rfl) ?_
  refine m_get (v := .int (lvI n)) hx hb hts h7 hown hK hM 18 (by decide) (hts (.fieldLink RX7 174 "ConfigBeaconModel" "level" "I") (by decide +kernel)) rfl dX7_finds_62 ?_
  refine lv_if_lt (tgt := 86) hx hb dX7_finds_65 (by decide) (fun c_1 => ?_) (fun c_1 => ?_)
  · obtain rfl : n = 0 := lvI_0 (by omega) c_1
    exact xw_vret hx hb hr hlocks hS ⟨rfl, hM⟩ (Nat.le_refl _) (Nat.le_refl _) dX7_finds_86
  · obtain ⟨n2, rfl⟩ := lvI_n c_1
    refine lv_aload_n hx hb dX7_finds_68 rfl (lv_at hl 1 rfl) ?_
    refine m_get (v := .ref (ad 16)) hx hb hts h7 hown hK hM 16 (by decide) (hts (.fieldLink RX7 50 "ConfigBeaconModel" "sums" "[J") (by decide +kernel)) rfl dX7_finds_69 ?_
    refine lv_aload_n hx hb dX7_finds_72 rfl (lv_at hl 1 rfl) ?_
    refine m_get (v := .int (lvI (n2 + 1))) hx hb hts h7 hown hK hM 18 (by decide) (hts (.fieldLink RX7 174 "ConfigBeaconModel" "level" "I") (by decide +kernel)) rfl dX7_finds_73 ?_
    refine lv_dup2_11 hx hb dX7_finds_76 rfl rfl ?_
    refine m_aldL hx hb hK hM 16 (by decide) (n := 16) rfl n2 (lvI_q n2) (by omega) (by decide) dX7_finds_77 (v := (σ.2.2 16 n2)) rfl ?_
    refine lv_aload_n hx hb dX7_finds_78 rfl (lv_at hl 1 rfl) ?_
    refine m_get (v := .ref (ad 19)) hx hb hts h7 hown hK hM 19 (by decide) (hts (.fieldLink RX7 57 "ConfigBeaconModel" "values" "[J") (by decide +kernel)) rfl dX7_finds_79 ?_
    refine lv_iload_n hx hb dX7_finds_82 rfl (lv_at hl 0 rfl) ?_
    refine m_aldL hx hb hK hM 19 (by decide) (n := 16) rfl b rfl (by omega) (by decide) dX7_finds_83 (v := (σ.2.2 16 (n2 + 1))) (by simp [sl, sg, mup]) ?_
    refine lv_ladd hx hb dX7_finds_84 ?_
    refine m_astL hx hb hK hM hS 16 (by decide) (n := 16) rfl n2 (lvI_q n2) (by omega) (by decide) dX7_finds_85 (fun H locs hM hS => ?_)
    exact xw_vret hx hb hr hlocks hS ⟨rfl, hM⟩ (Nat.le_refl _) (Nat.le_refl _) dX7_finds_86
