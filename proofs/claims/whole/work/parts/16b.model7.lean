set_option maxHeartbeats 4000000 in
set_option maxRecDepth 100000 in
theorem c_X7_isRolledTo (l : Launch) (D : va_G) (cA : Nat → ClassId) (A : Nat → Prop) (M : Nat) (ad : Nat → Nat) (σ : MS) (c9 : Nat) (k : Nat) (w : Option Nat) (hc : c9 < 12) (hk : k < 128) (hw : ∀ v, w = some v → v ≤ 512) : Met l yX7_isRolledTo wsX7_isRolledTo (rmK 1 0 0) (xP D cA [.ref M, .int (nI c9), .int (nI k), .int (atI w)] (MR D cA A M ad σ)) (xR (some (.int (bI (rolF σ.2.1 c9 k w))))) 0 0 (fun _ => False) := by
  refine Met.ofW (cc := cX7_isRolledTo) (maxL := 4) (ret := (some .boolean)) (by decide) rfl ?_
  intro p e s m args below meth c s₁ B hml hv
  obtain ⟨rfl, hK, hI⟩ := hv
  have hx := B.exec
  have hb := B.bytes
  have hr := B.returns
  have hts := atoms_spec (ws := wsX7_isRolledTo) B.pre
  have hown : s.vm.findClass RX7 = some m.cls := findClass_of_methodNamed B.named
  have hlocks := B.notSynchronized
  have hl := lv_entry ([.ref M, .int (nI c9), .int (nI k), .int (atI w)]) (n := 4) (Nat.le_of_ble_eq_true rfl)
  rw [lg_entry_eq]
  generalize (lg_sl ([.ref M, .int (nI c9), .int (nI k), .int (atI w)]) ++ List.replicate (4 - (lg_sl ([.ref M, .int (nI c9), .int (nI k), .int (atI w)])).length) Slot.unset).toArray = ls at hl ⊢
  have hl : lv_has ls 4 [(0, .ref M), (1, .int (nI c9)), (2, .int (nI k)), (3, .int (atI w))] := hl
  have hM : MR D cA A M ad σ s.heap := hI
  have h7 : ∀ w ∈ wsX70, w ∈ wsX7_isRolledTo := fun _ h => List.mem_cons_of_mem _ (List.mem_append_right _ h)
  refine lv_iload_n hx hb dX7_isRolledTo_0 rfl (lv_at hl 3 rfl) ?_
  refine lv_iconst (v := (-1)) hx hb dX7_isRolledTo_1 (by decide) ?_
  refine lv_icmp_ne (tgt := 32) hx hb dX7_isRolledTo_2 (by decide) (fun c_1 => ?_) (fun c_1 => ?_)
  · obtain ⟨v9, rfl⟩ : ∃ v, w = some v := by cases w <;> first | exact ⟨_, rfl⟩ | exact absurd rfl c_1
    have hv9 := hw v9 rfl
    refine lv_iconst (v := 0) hx hb dX7_isRolledTo_32 (by decide) ?_
    exact xr_zret hx hb hr hlocks (by first | (simp [rolF, bI, c_1]; done) | (simp_all [rolF, bI]; done) | (simp [rolF, bI, c_1]; omega)) dX7_isRolledTo_33
  · obtain rfl : w = none := atI_none (fun v q => by have := hw v q; omega) c_1
    refine lv_aload_n hx hb dX7_isRolledTo_5 rfl (lv_at hl 0 rfl) ?_
    refine m_get (v := .ref (ad 10)) hx hb hts h7 hown hK hM 10 (by decide) (hts (.fieldLink RX7 34 "ConfigBeaconModel" "shares" "[I") (by decide +kernel)) rfl dX7_isRolledTo_6 ?_
    refine lv_iload_n hx hb dX7_isRolledTo_9 rfl (lv_at hl 2 rfl) ?_
    refine m_ald hx hb hK hM 10 (by decide) (n := 128) rfl k rfl (by omega) (by decide) dX7_isRolledTo_10 (v := (σ.2.1 10 k)) rfl ?_
    refine lv_if_lt (tgt := 32) hx hb dX7_isRolledTo_11 (by decide) (fun c_2 => ?_) (fun c_2 => ?_)
    · refine lv_iconst (v := 0) hx hb dX7_isRolledTo_32 (by decide) ?_
      exact xr_zret hx hb hr hlocks (by first | (simp [rolF, bI, c_1, c_2, Int32.not_le.mpr c_2]; done) | (simp_all [rolF, bI]; done) | (simp [rolF, bI, c_1, c_2, Int32.not_le.mpr c_2]; omega)) dX7_isRolledTo_33
    · refine lv_iload_n hx hb dX7_isRolledTo_14 rfl (lv_at hl 1 rfl) ?_
      refine lv_iload_n hx hb dX7_isRolledTo_15 rfl (lv_at hl 2 rfl) ?_
      refine xr_call (va_runS (As := [.int (nI c9), .int (nI k)]) (rest := []) ⟨hx, hb, hml, hown, hts⟩ (c_X7_bucket l D cA c9 k (by omega) (by omega)) (va_cwS 2 hts gX7_isRolledTo_X7_bucket rfl rfl rfl (by decide +kernel) ⟨Nat.le_of_ble_eq_true rfl, Nat.le_of_ble_eq_true rfl⟩) (xPS hK trivial) rfl rfl hl.1 rfl (lv_room (Nat.le_of_ble_eq_true rfl)) dX7_isRolledTo_16 ⟨Nat.le_of_ble_eq_true rfl, Nat.le_of_ble_eq_true rfl⟩) ?_
      refine lv_aload_n hx hb dX7_isRolledTo_19 rfl (lv_at hl 0 rfl) ?_
      refine m_get (v := .ref (ad 10)) hx hb hts h7 hown hK hM 10 (by decide) (hts (.fieldLink RX7 34 "ConfigBeaconModel" "shares" "[I") (by decide +kernel)) rfl dX7_isRolledTo_20 ?_
      refine lv_iload_n hx hb dX7_isRolledTo_23 rfl (lv_at hl 2 rfl) ?_
      refine m_ald hx hb hK hM 10 (by decide) (n := 128) rfl k rfl (by omega) (by decide) dX7_isRolledTo_24 (v := (σ.2.1 10 k)) rfl ?_
      refine lv_icmp_ge (tgt := 32) hx hb dX7_isRolledTo_25 (by decide) (fun c_3 => ?_) (fun c_3 => ?_)
      · refine lv_iconst (v := 0) hx hb dX7_isRolledTo_32 (by decide) ?_
        exact xr_zret hx hb hr hlocks (by first | (simp [rolF, bI, c_1, c_2, Int32.not_lt.mp c_2, c_3, Int32.not_lt.mpr c_3]; done) | (simp_all [rolF, bI]; done) | (simp [rolF, bI, c_1, c_2, Int32.not_lt.mp c_2, c_3, Int32.not_lt.mpr c_3]; omega)) dX7_isRolledTo_33
      · refine lv_iconst (v := 1) hx hb dX7_isRolledTo_28 (by decide) ?_
        refine lv_goto (tgt := 33) hx hb dX7_isRolledTo_29 (by decide) ?_
        exact xr_zret hx hb hr hlocks (by first | (simp [rolF, bI, c_1, c_2, Int32.not_lt.mp c_2, c_3, Int32.not_le.mp c_3]; done) | (simp_all [rolF, bI]; done) | (simp [rolF, bI, c_1, c_2, Int32.not_lt.mp c_2, c_3, Int32.not_le.mp c_3]; omega)) dX7_isRolledTo_33
set_option maxHeartbeats 4000000 in
set_option maxRecDepth 100000 in
theorem c_X7_shown (l : Launch) (D : va_G) (cA : Nat → ClassId) (A : Nat → Prop) (M : Nat) (ad : Nat → Nat) (σ : MS) (c9 : Nat) (k : Nat) (w : Option Nat) (hc : c9 < 12) (hk : k < 128) (hw : ∀ v, w = some v → v ≤ 512) : Met l yX7_shown wsX7_shown (rmK 2 0 0) (xP D cA [.ref M, .int (nI c9), .int (nI k), .int (atI w)] (MR D cA A M ad σ)) (xR (some (.int (shwF σ.2.1 c9 k w)))) 0 0 (fun _ => False) := by
  refine Met.ofW (cc := cX7_shown) (maxL := 4) (ret := (some .int)) (by decide) rfl ?_
  intro p e s m args below meth c s₁ B hml hv
  obtain ⟨rfl, hK, hI⟩ := hv
  have hx := B.exec
  have hb := B.bytes
  have hr := B.returns
  have hts := atoms_spec (ws := wsX7_shown) B.pre
  have hown : s.vm.findClass RX7 = some m.cls := findClass_of_methodNamed B.named
  have hlocks := B.notSynchronized
  have hl := lv_entry ([.ref M, .int (nI c9), .int (nI k), .int (atI w)]) (n := 4) (Nat.le_of_ble_eq_true rfl)
  rw [lg_entry_eq]
  generalize (lg_sl ([.ref M, .int (nI c9), .int (nI k), .int (atI w)]) ++ List.replicate (4 - (lg_sl ([.ref M, .int (nI c9), .int (nI k), .int (atI w)])).length) Slot.unset).toArray = ls at hl ⊢
  have hl : lv_has ls 4 [(0, .ref M), (1, .int (nI c9)), (2, .int (nI k)), (3, .int (atI w))] := hl
  have hM : MR D cA A M ad σ s.heap := hI
  have h7 : ∀ w ∈ wsX70, w ∈ wsX7_shown := fun _ h => List.mem_cons_of_mem _ (List.mem_append_right _ h)
  refine lv_aload_n hx hb dX7_shown_0 rfl (lv_at hl 0 rfl) ?_
  refine lv_iload_n hx hb dX7_shown_1 rfl (lv_at hl 1 rfl) ?_
  refine lv_iload_n hx hb dX7_shown_2 rfl (lv_at hl 2 rfl) ?_
  refine lv_iload_n hx hb dX7_shown_3 rfl (lv_at hl 3 rfl) ?_
  refine xr_call (va_runV (As := [.int (nI c9), .int (nI k), .int (atI w)]) (rest := []) ⟨hx, hb, hml, hown, hts⟩ (c_X7_isRolledTo l D cA A M ad σ c9 k w (by omega) (by omega) hw) (cwV 3 hts gX7_shown_X7_isRolledTo rfl rfl rfl (by decide +kernel) ⟨Nat.le_of_ble_eq_true rfl, Nat.le_of_ble_eq_true rfl⟩) (xPV hK hM.1 rfl hM) rfl rfl hl.1 rfl (lv_room (Nat.le_of_ble_eq_true rfl)) dX7_shown_4 ⟨Nat.le_of_ble_eq_true rfl, Nat.le_of_ble_eq_true rfl⟩) ?_
  refine xb_eq (tgt := 19) hx hb dX7_shown_7 (by decide) (fun c_1 => ?_) (fun c_1 => ?_)
  · refine lv_iload_n hx hb dX7_shown_19 rfl (lv_at hl 3 rfl) ?_
    refine lv_iconst (v := (-1)) hx hb dX7_shown_20 (by decide) ?_
    refine lv_icmp_ne (tgt := 33) hx hb dX7_shown_21 (by decide) (fun c_2 => ?_) (fun c_2 => ?_)
    · obtain ⟨v9, rfl⟩ : ∃ v, w = some v := by cases w <;> first | exact ⟨_, rfl⟩ | exact absurd rfl c_2
      have hv9 := hw v9 rfl
      refine lv_aload_n hx hb dX7_shown_33 rfl (lv_at hl 0 rfl) ?_
      refine m_get (v := .ref (ad 12)) hx hb hts h7 hown hK hM 12 (by decide) (hts (.fieldLink RX7 41 "ConfigBeaconModel" "states" "[I") (by decide +kernel)) rfl dX7_shown_34 ?_
      refine lv_sipush (v := 128) hx hb dX7_shown_37 (by decide) ?_
      refine lv_iload_n hx hb dX7_shown_40 rfl (lv_at hl 3 rfl) ?_
      refine xe_imul hx hb (pk_mul 128 v9) dX7_shown_41 ?_
      refine lv_iload_n hx hb dX7_shown_42 rfl (lv_at hl 2 rfl) ?_
      refine xe_iadd hx hb (nI_add (128 * v9) k) dX7_shown_43 ?_
      refine m_ald hx hb hK hM 12 (by decide) (n := 65664) rfl ((128 * v9) + k) rfl (by omega) (by decide) dX7_shown_44 (v := (σ.2.1 12 ((128 * v9) + k))) rfl ?_
      exact xr_iret hx hb hr hlocks (by first | (simp [shwF, c_1, c_2]; done) | (simp_all [shwF]; done) | (simp [shwF, c_1, c_2]; omega)) dX7_shown_45
    · obtain rfl : w = none := atI_none (fun v q => by have := hw v q; omega) c_2
      refine lv_aload_n hx hb dX7_shown_24 rfl (lv_at hl 0 rfl) ?_
      refine m_get (v := .ref (ad 7)) hx hb hts h7 hown hK hM 7 (by decide) (hts (.fieldLink RX7 25 "ConfigBeaconModel" "entries" "[I") (by decide +kernel)) rfl dX7_shown_25 ?_
      refine lv_iload_n hx hb dX7_shown_28 rfl (lv_at hl 2 rfl) ?_
      refine m_ald hx hb hK hM 7 (by decide) (n := 128) rfl k rfl (by omega) (by decide) dX7_shown_29 (v := (σ.2.1 7 k)) rfl ?_
      refine lv_goto (tgt := 45) hx hb dX7_shown_30 (by decide) ?_
      exact xr_iret hx hb hr hlocks (by first | (simp [shwF, c_1, c_2]; done) | (simp_all [shwF]; done) | (simp [shwF, c_1, c_2]; omega)) dX7_shown_45
  · refine lv_aload_n hx hb dX7_shown_10 rfl (lv_at hl 0 rfl) ?_
    refine m_get (v := .ref (ad 9)) hx hb hts h7 hown hK hM 9 (by decide) (hts (.fieldLink RX7 31 "ConfigBeaconModel" "rolled" "[I") (by decide +kernel)) rfl dX7_shown_11 ?_
    refine lv_iload_n hx hb dX7_shown_14 rfl (lv_at hl 2 rfl) ?_
    refine m_ald hx hb hK hM 9 (by decide) (n := 128) rfl k rfl (by omega) (by decide) dX7_shown_15 (v := (σ.2.1 9 k)) rfl ?_
    refine lv_goto (tgt := 45) hx hb dX7_shown_16 (by decide) ?_
    exact xr_iret hx hb hr hlocks (by first | (simp [shwF, c_1]; done) | (simp_all [shwF]; done) | (simp [shwF, c_1]; omega)) dX7_shown_45
set_option maxHeartbeats 4000000 in
set_option maxRecDepth 100000 in
theorem c_X7_deciding (l : Launch) (D : va_G) (cA : Nat → ClassId) (A : Nat → Prop) (M : Nat) (ad : Nat → Nat) (σ : MS) (c9 : Nat) (b : Nat) (w : Option Nat) (nL : Nat) (hL : σ.1 6 = nI nL) (hL2 : nL ≤ 8) (hc : c9 < 12) (hb9 : b < 16) (hw : ∀ v, w = some v → v ≤ 512) : Met l yX7_deciding wsX7_deciding (rmK 3 0 0) (xP D cA [.ref M, .int (nI c9), .int (nI b), .int (atI w)] (MR D cA A M ad σ)) (xR (some (.int (loI (decO σ.2.1 c9 b w nL))))) 0 0 (fun _ => False) := by
  refine Met.ofW (cc := cX7_deciding) (maxL := 7) (ret := (some .int)) (by decide) rfl ?_
  intro p e s m args below meth c s₁ B hml hv
  obtain ⟨rfl, hK, hI⟩ := hv
  have hx := B.exec
  have hb := B.bytes
  have hr := B.returns
  have hts := atoms_spec (ws := wsX7_deciding) B.pre
  have hown : s.vm.findClass RX7 = some m.cls := findClass_of_methodNamed B.named
  have hlocks := B.notSynchronized
  have hl := lv_entry ([.ref M, .int (nI c9), .int (nI b), .int (atI w)]) (n := 7) (Nat.le_of_ble_eq_true rfl)
  rw [lg_entry_eq]
  generalize (lg_sl ([.ref M, .int (nI c9), .int (nI b), .int (atI w)]) ++ List.replicate (7 - (lg_sl ([.ref M, .int (nI c9), .int (nI b), .int (atI w)])).length) Slot.unset).toArray = ls at hl ⊢
  have hl : lv_has ls 7 [(0, .ref M), (1, .int (nI c9)), (2, .int (nI b)), (3, .int (atI w))] := hl
  have hM : MR D cA A M ad σ s.heap := hI
  have h7 : ∀ w ∈ wsX70, w ∈ wsX7_deciding := fun _ h => List.mem_cons_of_mem _ (List.mem_append_right _ h)
  refine lv_iconst (v := (-1)) hx hb dX7_deciding_0 (by decide) ?_
  refine lv_istore (lv' := [(4, .int (-1)), (0, .ref M), (1, .int (nI c9)), (2, .int (nI b)), (3, .int (atI w))]) hx hb dX7_deciding_1 hl (by decide) rfl (fun ls hl => ?_)
  refine lv_iconst (v := 0) hx hb dX7_deciding_3 (by decide) ?_
  refine lv_istore (lv' := [(5, .int 0), (4, .int (-1)), (0, .ref M), (1, .int (nI c9)), (2, .int (nI b)), (3, .int (atI w))]) hx hb dX7_deciding_4 hl (by decide) rfl (fun ls hl => ?_)
  refine w_loopR (fun (i : Nat) ls => i ≤ nL ∧ lv_has ls 7 [(0, .ref M), (1, .int (nI c9)), (2, .int (nI b)), (3, .int (atI w)), (4, .int (loI (decO σ.2.1 c9 b w i))), (5, .int (nI i))]) (fun (i : Nat) => nL - i) ?_ 0 ⟨Nat.zero_le _, lv_sub hl [2, 3, 4, 5, 1, 0] rfl⟩
  intro i ls h9 ih
  obtain ⟨hi, hl⟩ := h9
  refine lv_iload hx hb dX7_deciding_6 (lv_at hl 5 rfl) ?_
  refine lv_aload_n hx hb dX7_deciding_8 rfl (lv_at hl 0 rfl) ?_
  refine m_get (v := .int (nI nL)) hx hb hts h7 hown hK hM 6 (by decide) (hts (.fieldLink RX7 71 "ConfigBeaconModel" "layers" "I") (by decide +kernel)) (by show some (Value.int (σ.1 6)) = _; rw [hL]) dX7_deciding_9 ?_
  refine lv_icmp_ge (tgt := 84) hx hb dX7_deciding_12 (by decide) (fun c_1 => ?_) (fun c_1 => ?_)
  · have n_1 : nL ≤ i := (nI_leI (a := nL) (b := i) (by omega) (by omega)).mp c_1
    refine lv_iload hx hb dX7_deciding_84 (lv_at hl 4 rfl) ?_
    exact xr_iret hx hb hr hlocks (by rw [show i = nL by omega]) dX7_deciding_86
  · have n_1 : i < nL := Nat.not_le.mp (fun q => c_1 ((nI_leI (a := nL) (b := i) (by omega) (by omega)).mpr q))
    refine lv_aload_n hx hb dX7_deciding_15 rfl (lv_at hl 0 rfl) ?_
    refine lv_iload hx hb dX7_deciding_16 (lv_at hl 5 rfl) ?_
    refine lv_iload_n hx hb dX7_deciding_18 rfl (lv_at hl 1 rfl) ?_
    refine xr_call (va_runV (As := [.int (nI i), .int (nI c9)]) (rest := []) ⟨hx, hb, hml, hown, hts⟩ (c_X7_isFor l D cA A M ad σ i c9 (by omega) (by omega)) (cwV 2 hts gX7_deciding_X7_isFor rfl rfl rfl (by decide +kernel) ⟨Nat.le_of_ble_eq_true rfl, Nat.le_of_ble_eq_true rfl⟩) (xPV hK hM.1 rfl hM) rfl rfl hl.1 rfl (lv_room (Nat.le_of_ble_eq_true rfl)) dX7_deciding_19 ⟨Nat.le_of_ble_eq_true rfl, Nat.le_of_ble_eq_true rfl⟩) ?_
    refine xb_eq (tgt := 44) hx hb dX7_deciding_22 (by decide) (fun c_2 => ?_) (fun c_2 => ?_)
    · refine lv_iconst (v := 0) hx hb dX7_deciding_44 (by decide) ?_
      refine lv_istore (lv' := [(6, .int 0), (0, .ref M), (1, .int (nI c9)), (2, .int (nI b)), (3, .int (atI w)), (4, .int (loI (decO σ.2.1 c9 b w i))), (5, .int (nI i))]) hx hb dX7_deciding_45 hl (by decide) rfl (fun ls hl => ?_)
      refine lv_iload hx hb dX7_deciding_47 (lv_at hl 0 rfl) ?_
      refine lv_if_eq (tgt := 74) hx hb dX7_deciding_49 (by decide) (fun _ => ?_) (fun c_3 => absurd c_3 (by decide))
      refine lv_iload hx hb dX7_deciding_74 (lv_at hl 5 rfl) ?_
      refine xe_top (show (loI (decO σ.2.1 c9 b w i)) = (loI (decO σ.2.1 c9 b w (i + 1))) from by simp [decO, decS, loI, c_1, Int32.not_le.mp c_1, c_2]) ?_
      refine lv_istore (lv' := [(4, .int (loI (decO σ.2.1 c9 b w (i + 1)))), (6, .int 0), (0, .ref M), (1, .int (nI c9)), (2, .int (nI b)), (3, .int (atI w)), (5, .int (nI i))]) hx hb dX7_deciding_76 hl (by decide) rfl (fun ls hl => ?_)
      refine lv_iinc (v := (nI (i + 1))) (lv' := [(5, .int (nI (i + 1))), (4, .int (loI (decO σ.2.1 c9 b w (i + 1)))), (6, .int 0), (0, .ref M), (1, .int (nI c9)), (2, .int (nI b)), (3, .int (atI w))]) hx hb dX7_deciding_78 hl (k := 6) rfl (ni_inc i) (by decide) rfl (fun ls hl => ?_)
      refine lv_goto (tgt := 6) hx hb dX7_deciding_81 (by decide) ?_
      exact ih (i + 1) _ ⟨(by omega), lv_sub hl [3, 4, 5, 6, 1, 0] rfl⟩ (by omega)
    · refine lv_aload_n hx hb dX7_deciding_25 rfl (lv_at hl 0 rfl) ?_
      refine lv_iload_n hx hb dX7_deciding_26 rfl (lv_at hl 1 rfl) ?_
      refine lv_iload hx hb dX7_deciding_27 (lv_at hl 5 rfl) ?_
      refine lv_iload_n hx hb dX7_deciding_29 rfl (lv_at hl 2 rfl) ?_
      refine xr_call (va_runS (As := [.int (nI i), .int (nI b)]) (rest := [.int (nI c9), .ref M]) ⟨hx, hb, hml, hown, hts⟩ (c_X7_cell l D cA i b) (va_cwS 2 hts gX7_deciding_X7_cell rfl rfl rfl (by decide +kernel) ⟨Nat.le_of_ble_eq_true rfl, Nat.le_of_ble_eq_true rfl⟩) (xPS hK trivial) rfl rfl hl.1 rfl (lv_room (Nat.le_of_ble_eq_true rfl)) dX7_deciding_30 ⟨Nat.le_of_ble_eq_true rfl, Nat.le_of_ble_eq_true rfl⟩) ?_
      refine lv_iload_n hx hb dX7_deciding_33 rfl (lv_at hl 3 rfl) ?_
      refine xr_call (va_runV (As := [.int (nI c9), .int (nI (16 * i + b)), .int (atI w)]) (rest := []) ⟨hx, hb, hml, hown, hts⟩ (c_X7_shown l D cA A M ad σ c9 (16 * i + b) w (by omega) (by omega) hw) (cwV 3 hts gX7_deciding_X7_shown rfl rfl rfl (by decide +kernel) ⟨Nat.le_of_ble_eq_true rfl, Nat.le_of_ble_eq_true rfl⟩) (xPV hK hM.1 rfl hM) rfl rfl hl.1 rfl (lv_room (Nat.le_of_ble_eq_true rfl)) dX7_deciding_34 ⟨Nat.le_of_ble_eq_true rfl, Nat.le_of_ble_eq_true rfl⟩) ?_
      refine lv_if_le (tgt := 44) hx hb dX7_deciding_37 (by decide) (fun c_4 => ?_) (fun c_4 => ?_)
      · refine lv_iconst (v := 0) hx hb dX7_deciding_44 (by decide) ?_
        refine lv_istore (lv' := [(6, .int 0), (0, .ref M), (1, .int (nI c9)), (2, .int (nI b)), (3, .int (atI w)), (4, .int (loI (decO σ.2.1 c9 b w i))), (5, .int (nI i))]) hx hb dX7_deciding_45 hl (by decide) rfl (fun ls hl => ?_)
        refine lv_iload hx hb dX7_deciding_47 (lv_at hl 0 rfl) ?_
        refine lv_if_eq (tgt := 74) hx hb dX7_deciding_49 (by decide) (fun _ => ?_) (fun c_5 => absurd c_5 (by decide))
        refine lv_iload hx hb dX7_deciding_74 (lv_at hl 5 rfl) ?_
        refine xe_top (show (loI (decO σ.2.1 c9 b w i)) = (loI (decO σ.2.1 c9 b w (i + 1))) from by simp [decO, decS, loI, c_1, Int32.not_le.mp c_1, c_2, c_4, Int32.not_lt.mpr c_4]) ?_
        refine lv_istore (lv' := [(4, .int (loI (decO σ.2.1 c9 b w (i + 1)))), (6, .int 0), (0, .ref M), (1, .int (nI c9)), (2, .int (nI b)), (3, .int (atI w)), (5, .int (nI i))]) hx hb dX7_deciding_76 hl (by decide) rfl (fun ls hl => ?_)
        refine lv_iinc (v := (nI (i + 1))) (lv' := [(5, .int (nI (i + 1))), (4, .int (loI (decO σ.2.1 c9 b w (i + 1)))), (6, .int 0), (0, .ref M), (1, .int (nI c9)), (2, .int (nI b)), (3, .int (atI w))]) hx hb dX7_deciding_78 hl (k := 6) rfl (ni_inc i) (by decide) rfl (fun ls hl => ?_)
        refine lv_goto (tgt := 6) hx hb dX7_deciding_81 (by decide) ?_
        exact ih (i + 1) _ ⟨(by omega), lv_sub hl [3, 4, 5, 6, 1, 0] rfl⟩ (by omega)
      · refine lv_iconst (v := 1) hx hb dX7_deciding_40 (by decide) ?_
        refine lv_goto (tgt := 45) hx hb dX7_deciding_41 (by decide) ?_
        refine lv_istore (lv' := [(6, .int 1), (0, .ref M), (1, .int (nI c9)), (2, .int (nI b)), (3, .int (atI w)), (4, .int (loI (decO σ.2.1 c9 b w i))), (5, .int (nI i))]) hx hb dX7_deciding_45 hl (by decide) rfl (fun ls hl => ?_)
        refine lv_iload hx hb dX7_deciding_47 (lv_at hl 0 rfl) ?_
        refine lv_if_eq (tgt := 74) hx hb dX7_deciding_49 (by decide) (fun c_6 => absurd c_6 (by decide)) (fun _ => ?_)
        refine lv_iload hx hb dX7_deciding_52 (lv_at hl 5 rfl) ?_
        refine lv_iconst (v := (-1)) hx hb dX7_deciding_54 (by decide) ?_
        refine lv_icmp_eq (tgt := 69) hx hb dX7_deciding_55 (by decide) (fun c_7 => ?_) (fun c_7 => ?_)
        · have e_c_7 : (decO σ.2.1 c9 b w i) = none := loI_none (fun j q => by have := (decO_lt q).1; omega) c_7
          refine lv_iload hx hb dX7_deciding_69 (lv_at hl 6 rfl) ?_
          refine lv_goto (tgt := 76) hx hb dX7_deciding_71 (by decide) ?_
          refine xe_top (show (nI i) = (loI (decO σ.2.1 c9 b w (i + 1))) from by simp [decO, decS, loI, c_1, Int32.not_le.mp c_1, c_2, c_4, Int32.not_le.mp c_4, e_c_7]) ?_
          refine lv_istore (lv' := [(4, .int (loI (decO σ.2.1 c9 b w (i + 1)))), (6, .int 1), (0, .ref M), (1, .int (nI c9)), (2, .int (nI b)), (3, .int (atI w)), (5, .int (nI i))]) hx hb dX7_deciding_76 hl (by decide) rfl (fun ls hl => ?_)
          refine lv_iinc (v := (nI (i + 1))) (lv' := [(5, .int (nI (i + 1))), (4, .int (loI (decO σ.2.1 c9 b w (i + 1)))), (6, .int 1), (0, .ref M), (1, .int (nI c9)), (2, .int (nI b)), (3, .int (atI w))]) hx hb dX7_deciding_78 hl (k := 6) rfl (ni_inc i) (by decide) rfl (fun ls hl => ?_)
          refine lv_goto (tgt := 6) hx hb dX7_deciding_81 (by decide) ?_
          exact ih (i + 1) _ ⟨(by omega), lv_sub hl [3, 4, 5, 6, 1, 0] rfl⟩ (by omega)
        · obtain ⟨j9, hj9⟩ := loI_some c_7
          have hj9l := (decO_lt hj9).1
          refine lv_aload_n hx hb dX7_deciding_58 rfl (lv_at hl 1 rfl) ?_
          refine lv_iload hx hb dX7_deciding_59 (lv_at hl 6 rfl) ?_
          refine lv_iload hx hb dX7_deciding_61 (lv_at hl 5 rfl) ?_
          refine xe_top (show (loI (decO σ.2.1 c9 b w i)) = nI j9 from by rw [hj9]; rfl) ?_
          refine xr_call (va_runV (As := [.int (nI i), .int (nI j9)]) (rest := []) ⟨hx, hb, hml, hown, hts⟩ (c_X7_isAhead l D cA A M ad σ i j9 (by omega) (by omega)) (cwV 2 hts gX7_deciding_X7_isAhead rfl rfl rfl (by decide +kernel) ⟨Nat.le_of_ble_eq_true rfl, Nat.le_of_ble_eq_true rfl⟩) (xPV hK hM.1 rfl hM) rfl rfl hl.1 rfl (lv_room (Nat.le_of_ble_eq_true rfl)) dX7_deciding_63 ⟨Nat.le_of_ble_eq_true rfl, Nat.le_of_ble_eq_true rfl⟩) ?_
          refine xb_eq (tgt := 74) hx hb dX7_deciding_66 (by decide) (fun c_8 => ?_) (fun c_8 => ?_)
          · refine lv_iload hx hb dX7_deciding_74 (lv_at hl 5 rfl) ?_
            refine xe_top (show (loI (decO σ.2.1 c9 b w i)) = (loI (decO σ.2.1 c9 b w (i + 1))) from by simp [decO, decS, loI, c_1, Int32.not_le.mp c_1, c_2, c_4, Int32.not_le.mp c_4, hj9, c_8]) ?_
            refine lv_istore (lv' := [(4, .int (loI (decO σ.2.1 c9 b w (i + 1)))), (6, .int 1), (0, .ref M), (1, .int (nI c9)), (2, .int (nI b)), (3, .int (atI w)), (5, .int (nI i))]) hx hb dX7_deciding_76 hl (by decide) rfl (fun ls hl => ?_)
            refine lv_iinc (v := (nI (i + 1))) (lv' := [(5, .int (nI (i + 1))), (4, .int (loI (decO σ.2.1 c9 b w (i + 1)))), (6, .int 1), (0, .ref M), (1, .int (nI c9)), (2, .int (nI b)), (3, .int (atI w))]) hx hb dX7_deciding_78 hl (k := 6) rfl (ni_inc i) (by decide) rfl (fun ls hl => ?_)
            refine lv_goto (tgt := 6) hx hb dX7_deciding_81 (by decide) ?_
            exact ih (i + 1) _ ⟨(by omega), lv_sub hl [3, 4, 5, 6, 1, 0] rfl⟩ (by omega)
          · refine lv_iload hx hb dX7_deciding_69 (lv_at hl 6 rfl) ?_
            refine lv_goto (tgt := 76) hx hb dX7_deciding_71 (by decide) ?_
            refine xe_top (show (nI i) = (loI (decO σ.2.1 c9 b w (i + 1))) from by simp [decO, decS, loI, c_1, Int32.not_le.mp c_1, c_2, c_4, Int32.not_le.mp c_4, hj9, c_8]) ?_
            refine lv_istore (lv' := [(4, .int (loI (decO σ.2.1 c9 b w (i + 1)))), (6, .int 1), (0, .ref M), (1, .int (nI c9)), (2, .int (nI b)), (3, .int (atI w)), (5, .int (nI i))]) hx hb dX7_deciding_76 hl (by decide) rfl (fun ls hl => ?_)
            refine lv_iinc (v := (nI (i + 1))) (lv' := [(5, .int (nI (i + 1))), (4, .int (loI (decO σ.2.1 c9 b w (i + 1)))), (6, .int 1), (0, .ref M), (1, .int (nI c9)), (2, .int (nI b)), (3, .int (atI w))]) hx hb dX7_deciding_78 hl (k := 6) rfl (ni_inc i) (by decide) rfl (fun ls hl => ?_)
            refine lv_goto (tgt := 6) hx hb dX7_deciding_81 (by decide) ?_
            exact ih (i + 1) _ ⟨(by omega), lv_sub hl [3, 4, 5, 6, 1, 0] rfl⟩ (by omega)
set_option maxHeartbeats 4000000 in
set_option maxRecDepth 100000 in
theorem c_X7_fails (l : Launch) (D : va_G) (cA : Nat → ClassId) (A : Nat → Prop) (M : Nat) (ad : Nat → Nat) (σ : MS) (y : Int32) (q : Int32) : Met l yX7_fails wsX7_fails (rmK 0 0 0) (xP D cA [.ref M, .int y, .int q] (MR D cA A M ad σ)) (xW (xV none (MR D cA A M ad (sg (sg σ 23 y) 24 q))) A) 0 0 A := by
  refine Met.ofW (cc := cX7_fails) (maxL := 3) (ret := none) (by decide) rfl ?_
  intro p e s m args below meth c s₁ B hml hv
  obtain ⟨rfl, hK, hI⟩ := hv
  have hx := B.exec
  have hb := B.bytes
  have hr := B.returns
  have hts := atoms_spec (ws := wsX7_fails) B.pre
  have hown : s.vm.findClass RX7 = some m.cls := findClass_of_methodNamed B.named
  have hlocks := B.notSynchronized
  have hl := lv_entry ([.ref M, .int y, .int q]) (n := 3) (Nat.le_of_ble_eq_true rfl)
  rw [lg_entry_eq]
  generalize (lg_sl ([.ref M, .int y, .int q]) ++ List.replicate (3 - (lg_sl ([.ref M, .int y, .int q])).length) Slot.unset).toArray = ls at hl ⊢
  have hl : lv_has ls 3 [(0, .ref M), (1, .int y), (2, .int q)] := hl
  have hM : MR D cA A M ad σ s.heap := hI
  have h7 : ∀ w ∈ wsX70, w ∈ wsX7_fails := fun _ h => List.mem_cons_of_mem _ (List.mem_append_right _ h)
  have hS : va_S A s.heap s.heap [] := va_S.rf
  refine lv_aload_n hx hb dX7_fails_0 rfl (lv_at hl 0 rfl) ?_
  refine lv_iload_n hx hb dX7_fails_1 rfl (lv_at hl 1 rfl) ?_
  refine m_put hx hb hts h7 hown hK hM hS 23 (by decide) (by decide) (hts (.fieldLink RX7 159 "ConfigBeaconModel" "status" "I") (by decide +kernel)) rfl rfl dX7_fails_2 (fun H locs hM hS => ?_)
  refine lv_aload_n hx hb dX7_fails_5 rfl (lv_at hl 0 rfl) ?_
  refine lv_iload_n hx hb dX7_fails_6 rfl (lv_at hl 2 rfl) ?_
  refine m_put hx hb hts h7 hown hK hM hS 24 (by decide) (by decide) (hts (.fieldLink RX7 162 "ConfigBeaconModel" "culprit" "I") (by decide +kernel)) rfl rfl dX7_fails_7 (fun H locs hM hS => ?_)
  exact xw_vret hx hb hr hlocks hS ⟨rfl, hM⟩ (Nat.le_refl _) (Nat.le_refl _) dX7_fails_10
