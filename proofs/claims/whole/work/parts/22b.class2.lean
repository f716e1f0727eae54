set_option maxHeartbeats 4000000 in
set_option maxRecDepth 100000 in
theorem c_X4_canBeHeld (l : Launch) (D : va_G) (cA : Nat → ClassId) (a num : Nat) (sel whi pre9 : Int32) (ho ro ch : Nat) (hf : Nat → Int32) (v o : Int32) (hv : v = -1 ∨ okS v = true) : Met l yX4_canBeHeld wsX4_canBeHeld (rmK 2 0 0) (xP D cA [.ref a, .int v, .int o] (fun H => xO D a 5 (lyV (nI num) sel whi pre9 ho ro ch) H ∧ xI (cA 0) ho 17 hf H)) (xR (some (.int (bI (cbF hf v o))))) 0 0 (fun _ => False) := by
  refine Met.ofW (cc := cX4_canBeHeld) (maxL := 4) (ret := (some .boolean)) (by decide) rfl ?_
  intro p e s m args below meth c s₁ B hml hv
  obtain ⟨rfl, hK, hI⟩ := hv
  have hx := B.exec
  have hb := B.bytes
  have hr := B.returns
  have hts := atoms_spec (ws := wsX4_canBeHeld) B.pre
  have hown : s.vm.findClass RX4 = some m.cls := findClass_of_methodNamed B.named
  have hlocks := B.notSynchronized
  have hl := lv_entry ([.ref a, .int v, .int o]) (n := 4) (Nat.le_of_ble_eq_true rfl)
  rw [lg_entry_eq]
  generalize (lg_sl ([.ref a, .int v, .int o]) ++ List.replicate (4 - (lg_sl ([.ref a, .int v, .int o])).length) Slot.unset).toArray = ls at hl ⊢
  have hl : lv_has ls 4 [(0, .ref a), (1, .int v), (2, .int o)] := hl
  have h_X4 : ∀ w ∈ wsX40, w ∈ wsX4_canBeHeld := fun _ h => List.mem_cons_of_mem _ (List.mem_append_right _ h)
  obtain ⟨hO, hI9⟩ := hI
  refine lv_iload_n hx hb dX4_canBeHeld_0 rfl (lv_at hl 1 rfl) ?_
  refine lv_iconst (v := (-1)) hx hb dX4_canBeHeld_1 (by decide) ?_
  refine lv_icmp_eq (tgt := 20) hx hb dX4_canBeHeld_2 (by decide) (fun c_1 => ?_) (fun c_1 => ?_)
  · refine lv_iconst (v := 0) hx hb dX4_canBeHeld_20 (by decide) ?_
    refine lv_istore_n (lv' := [(3, .int 0), (0, .ref a), (1, .int v), (2, .int o)]) hx hb dX4_canBeHeld_21 rfl hl (by decide) rfl (fun ls hl => ?_)
    refine w_loopR (fun (i : Nat) ls => i ≤ 17 ∧ anyF (fun k => heF (hf k) o) i = false ∧ lv_has ls 4 [(0, .ref a), (1, .int v), (2, .int o), (3, .int (nI i))]) (fun (i : Nat) => 17 - i) ?_ 0 ⟨Nat.zero_le _, rfl, lv_sub hl [1, 2, 3, 0] rfl⟩
    intro i ls h9 ih
    obtain ⟨hi, hany, hl⟩ := h9
    refine lv_iload_n hx hb dX4_canBeHeld_22 rfl (lv_at hl 3 rfl) ?_
    refine lv_bipush (v := 16) hx hb dX4_canBeHeld_23 (by decide) ?_
    refine lv_icmp_gt (tgt := 45) hx hb dX4_canBeHeld_25 (by decide) (fun c_2 => ?_) (fun c_2 => ?_)
    · have n_2 : 16 < i := (nI_ltI (a := 16) (b := i) (by omega) (by omega)).mp c_2
      refine lv_iconst (v := 1) hx hb dX4_canBeHeld_45 (by decide) ?_
      have e17 : i = 17 := by omega
      subst e17
      exact xr_zret hx hb hr hlocks (b := cbF hf v o) (by rw [cbF, if_pos c_1, hany]; rfl) dX4_canBeHeld_46
    · have n_2 : i ≤ 16 := Nat.not_lt.mp (fun q => c_2 ((nI_ltI (a := 16) (b := i) (by omega) (by omega)).mpr q))
      refine lv_aload_n hx hb dX4_canBeHeld_28 rfl (lv_at hl 0 rfl) ?_
      refine lv_iload_n hx hb dX4_canBeHeld_29 rfl (lv_at hl 3 rfl) ?_
      refine lv_iload_n hx hb dX4_canBeHeld_30 rfl (lv_at hl 2 rfl) ?_
      refine xr_call (va_runV (As := [.int (nI i), .int o]) (rest := []) ⟨hx, hb, hml, hown, hts⟩ (c_X4_isHeldByOther l D cA a num sel whi pre9 ho ro ch hf i (by omega) o) (cwV 2 hts gX4_canBeHeld_X4_isHeldByOther rfl rfl rfl (by decide +kernel) ⟨Nat.le_of_ble_eq_true rfl, Nat.le_of_ble_eq_true rfl⟩) (xPV hK hO rfl ⟨hO, hI9⟩) rfl rfl hl.1 rfl (lv_room (Nat.le_of_ble_eq_true rfl)) dX4_canBeHeld_31 ⟨Nat.le_of_ble_eq_true rfl, Nat.le_of_ble_eq_true rfl⟩) ?_
      refine xb_eq (tgt := 39) hx hb dX4_canBeHeld_34 (by decide) (fun c_3 => ?_) (fun c_3 => ?_)
      · refine lv_iinc (v := (nI (i + 1))) (lv' := [(3, .int (nI (i + 1))), (0, .ref a), (1, .int v), (2, .int o)]) hx hb dX4_canBeHeld_39 hl (k := 3) rfl (ni_inc i) (by decide) rfl (fun ls hl => ?_)
        refine lv_goto (tgt := 22) hx hb dX4_canBeHeld_42 (by decide) ?_
        exact ih (i + 1) _ ⟨(by omega), (by simp [anyF, hany, c_3]), lv_sub hl [1, 2, 3, 0] rfl⟩ (by omega)
      · refine lv_iconst (v := 0) hx hb dX4_canBeHeld_37 (by decide) ?_
        exact xr_zret hx hb hr hlocks (b := cbF hf v o) (by rw [cbF, if_pos c_1, anyF_of (p := (fun k => heF (hf k) o)) (i := i) c_3 (by omega)]; rfl) dX4_canBeHeld_38
  · obtain ⟨j, hj, rfl⟩ := okS_of (hv.resolve_left c_1)
    refine lv_aload_n hx hb dX4_canBeHeld_5 rfl (lv_at hl 0 rfl) ?_
    refine lv_iload_n hx hb dX4_canBeHeld_6 rfl (lv_at hl 1 rfl) ?_
    refine lv_iload_n hx hb dX4_canBeHeld_7 rfl (lv_at hl 2 rfl) ?_
    refine xr_call (va_runV (As := [.int (nI j), .int o]) (rest := []) ⟨hx, hb, hml, hown, hts⟩ (c_X4_isHeldAgainst l D cA a num sel whi pre9 ho ro ch hf j (by omega) o) (cwV 2 hts gX4_canBeHeld_X4_isHeldAgainst rfl rfl rfl (by decide +kernel) ⟨Nat.le_of_ble_eq_true rfl, Nat.le_of_ble_eq_true rfl⟩) (xPV hK hO rfl ⟨hO, hI9⟩) rfl rfl hl.1 rfl (lv_room (Nat.le_of_ble_eq_true rfl)) dX4_canBeHeld_8 ⟨Nat.le_of_ble_eq_true rfl, Nat.le_of_ble_eq_true rfl⟩) ?_
    refine xb_ne (tgt := 18) hx hb dX4_canBeHeld_11 (by decide) (fun c_4 => ?_) (fun c_4 => ?_)
    · refine lv_iconst (v := 0) hx hb dX4_canBeHeld_18 (by decide) ?_
      exact xr_zret hx hb hr hlocks (b := cbF hf (nI j) o) (by rw [cbF, if_neg c_1, ix_nI (by omega), c_4]; rfl) dX4_canBeHeld_19
    · refine lv_iconst (v := 1) hx hb dX4_canBeHeld_14 (by decide) ?_
      refine lv_goto (tgt := 19) hx hb dX4_canBeHeld_15 (by decide) ?_
      exact xr_zret hx hb hr hlocks (b := cbF hf (nI j) o) (by rw [cbF, if_neg c_1, ix_nI (by omega), c_4]; rfl) dX4_canBeHeld_19
set_option maxHeartbeats 4000000 in
set_option maxRecDepth 100000 in
theorem c_X4_newEntryFor (l : Launch) (D : va_G) (cA : Nat → ClassId) (a num : Nat) (sel whi pre9 : Int32) (ho ro ch : Nat) (c9 b9 : Nat) (hc : c9 < 12) (ha8 : num < 8) (hb9 : b9 < 16) (rf : Nat → Option Nat) (ov : Option Nat) (hov : rf b9 = ov) (en : Nat) (sh : Int32) : Met l yX4_newEntryFor wsX4_newEntryFor (rmK 1 0 0) (xP D cA [.ref a, .int (nI c9), .int (nI b9)] (fun H => xO D a 5 (lyV (nI num) sel whi pre9 ho ro ch) H ∧ xQ (cA 3) ro 16 rf H ∧ (∀ r, ov = some r → xO D r 6 [.ref en, .int sh] H))) (xR (some (va_rf (neF ov en (nI (bk c9 num b9)) sh)))) 0 0 (fun _ => False) := by
  refine Met.ofW (cc := cX4_newEntryFor) (maxL := 4) (ret := (some (.object "ConfigBeacon$Entry"))) (by decide) rfl ?_
  intro p e s m args below meth c s₁ B hml hv
  obtain ⟨rfl, hK, hI⟩ := hv
  have hx := B.exec
  have hb := B.bytes
  have hr := B.returns
  have hts := atoms_spec (ws := wsX4_newEntryFor) B.pre
  have hown : s.vm.findClass RX4 = some m.cls := findClass_of_methodNamed B.named
  have hlocks := B.notSynchronized
  have hl := lv_entry ([.ref a, .int (nI c9), .int (nI b9)]) (n := 4) (Nat.le_of_ble_eq_true rfl)
  rw [lg_entry_eq]
  generalize (lg_sl ([.ref a, .int (nI c9), .int (nI b9)]) ++ List.replicate (4 - (lg_sl ([.ref a, .int (nI c9), .int (nI b9)])).length) Slot.unset).toArray = ls at hl ⊢
  have hl : lv_has ls 4 [(0, .ref a), (1, .int (nI c9)), (2, .int (nI b9))] := hl
  have h_X4 : ∀ w ∈ wsX40, w ∈ wsX4_newEntryFor := fun _ h => List.mem_cons_of_mem _ (List.mem_append_left _ (List.mem_append_right _ h))
  have h_X5 : ∀ w ∈ wsX50, w ∈ wsX4_newEntryFor := fun _ h => List.mem_cons_of_mem _ (List.mem_append_right _ h)
  obtain ⟨hO, hQ, hR0⟩ := hI
  refine lv_aload_n hx hb dX4_newEntryFor_0 rfl (lv_at hl 0 rfl) ?_
  refine x_get (v := .ref ro) hx hb hts h_X4 hown hK hO rfl 5 (by decide) (hts (.fieldLink RX4 17 "ConfigBeacon$Layer" "rollouts" "[LConfigBeacon$Rollout;") (by decide +kernel)) (fun _ h => h) rfl dX4_newEntryFor_1 ?_
  refine lv_iload_n hx hb dX4_newEntryFor_4 rfl (lv_at hl 2 rfl) ?_
  refine x_aald hx hb hK 3 rfl hQ b9 rfl (by omega) (by decide) (v := ov) hov dX4_newEntryFor_5 ?_
  cases ov with
  | none =>
    refine lv_astore_nN (lv' := [(3, .null), (0, .ref a), (1, .int (nI c9)), (2, .int (nI b9))]) hx hb dX4_newEntryFor_6 rfl hl (by decide) rfl (fun ls hl => ?_)
    refine lv_aload_nN hx hb dX4_newEntryFor_7 rfl (lv_at hl 0 rfl) ?_
    refine lv_ifnullN (tgt := 31) hx hb dX4_newEntryFor_8 (by decide) ?_
    refine lv_null hx hb dX4_newEntryFor_31 ?_
    exact xr_aret (v := none) hx hb hr rfl hlocks rfl dX4_newEntryFor_32
  | some r9 =>
    have hR := hR0 r9 rfl
    refine lv_astore_n (lv' := [(3, .ref r9), (0, .ref a), (1, .int (nI c9)), (2, .int (nI b9))]) hx hb dX4_newEntryFor_6 rfl hl (by decide) rfl (fun ls hl => ?_)
    refine lv_aload_n hx hb dX4_newEntryFor_7 rfl (lv_at hl 0 rfl) ?_
    refine lv_ifnull hx hb dX4_newEntryFor_8 ?_
    refine lv_aload_n hx hb dX4_newEntryFor_11 rfl (lv_at hl 1 rfl) ?_
    refine lv_iload_n hx hb dX4_newEntryFor_12 rfl (lv_at hl 2 rfl) ?_
    refine lv_iload_n hx hb dX4_newEntryFor_13 rfl (lv_at hl 3 rfl) ?_
    refine xr_call (va_runV (As := [.int (nI c9), .int (nI b9)]) (rest := []) ⟨hx, hb, hml, hown, hts⟩ (c_X4_bucket l D cA a num sel whi pre9 ho ro ch c9 b9 hc ha8 hb9) (cwV 2 hts gX4_newEntryFor_X4_bucket rfl rfl rfl (by decide +kernel) ⟨Nat.le_of_ble_eq_true rfl, Nat.le_of_ble_eq_true rfl⟩) (xPV hK hO rfl hO) rfl rfl hl.1 rfl (lv_room (Nat.le_of_ble_eq_true rfl)) dX4_newEntryFor_14 ⟨Nat.le_of_ble_eq_true rfl, Nat.le_of_ble_eq_true rfl⟩) ?_
    refine lv_aload_n hx hb dX4_newEntryFor_17 rfl (lv_at hl 0 rfl) ?_
    refine x_getN (v := .int sh) hx hb hts h_X5 hown hK hR rfl 1 (by decide) (va_Nw.use rfl (hK.2.2.1 ("ConfigBeacon$Layer", 49, "ConfigBeacon$Rollout", "share", "I") (by decide))) (fun _ h => h) rfl dX4_newEntryFor_18 ?_
    refine lv_icmp_ge (tgt := 31) hx hb dX4_newEntryFor_21 (by decide) (fun c_1 => ?_) (fun c_1 => ?_)
    · refine lv_null hx hb dX4_newEntryFor_31 ?_
      exact xr_aret (v := none) hx hb hr rfl hlocks (by rw [neF, if_neg (Int32.not_lt.mpr c_1)]) dX4_newEntryFor_32
    · refine lv_aload_n hx hb dX4_newEntryFor_24 rfl (lv_at hl 0 rfl) ?_
      refine x_getN (v := .ref en) hx hb hts h_X5 hown hK hR rfl 0 (by decide) (va_Nw.use rfl (hK.2.2.1 ("ConfigBeacon$Layer", 52, "ConfigBeacon$Rollout", "entry", "LConfigBeacon$Entry;") (by decide))) (fun _ h => h) rfl dX4_newEntryFor_25 ?_
      refine lv_goto (tgt := 32) hx hb dX4_newEntryFor_28 (by decide) ?_
      exact xr_aret (v := some en) hx hb hr rfl hlocks (by rw [neF, if_pos (Int32.not_le.mp c_1)]) dX4_newEntryFor_32
set_option maxHeartbeats 4000000 in
set_option maxRecDepth 100000 in
theorem c_X2_areSame_00 (l : Launch) (D : va_G) (cA : Nat → ClassId) (q1 q2 : Nat) (x1 x2 : Int32) : Met l yX2_areSame wsX2_areSame (rmK 0 0 0) (xP D cA [.null, .null] (fun H => eR D none x1 H ∧ eR D none x2 H)) (xR (some (.int (bI (decide (x1 = x2)))))) 0 0 (fun _ => False) := by
  refine Met.ofW (cc := cX2_areSame) (maxL := 2) (ret := (some .boolean)) (by decide) rfl ?_
  intro p e s m args below meth c s₁ B hml hv
  obtain ⟨rfl, hK, hI⟩ := hv
  have hx := B.exec
  have hb := B.bytes
  have hr := B.returns
  have hts := atoms_spec (ws := wsX2_areSame) B.pre
  have hown : s.vm.findClass RX2 = some m.cls := findClass_of_methodNamed B.named
  have hlocks := B.notSynchronized
  have hl := lv_entry ([.null, .null]) (n := 2) (Nat.le_of_ble_eq_true rfl)
  rw [lg_entry_eq]
  generalize (lg_sl ([.null, .null]) ++ List.replicate (2 - (lg_sl ([.null, .null])).length) Slot.unset).toArray = ls at hl ⊢
  have hl : lv_has ls 2 [(0, .null), (1, .null)] := hl
  have h_X2 : ∀ w ∈ wsX20, w ∈ wsX2_areSame := fun _ h => List.mem_cons_of_mem _ (List.mem_append_right _ h)
  obtain ⟨h1, h2⟩ := hI
  refine lv_aload_nN hx hb dX2_areSame_0 rfl (lv_at hl 0 rfl) ?_
  refine lv_ifnullN (tgt := 8) hx hb dX2_areSame_1 (by decide) ?_
  refine lv_aload_nN hx hb dX2_areSame_8 rfl (lv_at hl 0 rfl) ?_
  refine lv_ifnonnullN hx hb dX2_areSame_9 ?_
  refine lv_aload_nN hx hb dX2_areSame_12 rfl (lv_at hl 1 rfl) ?_
  refine lv_ifnonnullN hx hb dX2_areSame_13 ?_
  refine lv_iconst (v := 1) hx hb dX2_areSame_16 (by decide) ?_
  refine lv_goto (tgt := 21) hx hb dX2_areSame_17 (by decide) ?_
  exact xr_zret hx hb hr hlocks (b := decide (x1 = x2)) (by rw [show x1 = 0 from h1, show x2 = 0 from h2]; rfl) dX2_areSame_21
set_option maxHeartbeats 4000000 in
set_option maxRecDepth 100000 in
theorem c_X2_areSame_01 (l : Launch) (D : va_G) (cA : Nat → ClassId) (q1 q2 : Nat) (x1 x2 : Int32) : Met l yX2_areSame wsX2_areSame (rmK 0 0 0) (xP D cA [.null, .ref q2] (fun H => eR D none x1 H ∧ eR D (some q2) x2 H)) (xR (some (.int (bI (decide (x1 = x2)))))) 0 0 (fun _ => False) := by
  refine Met.ofW (cc := cX2_areSame) (maxL := 2) (ret := (some .boolean)) (by decide) rfl ?_
  intro p e s m args below meth c s₁ B hml hv
  obtain ⟨rfl, hK, hI⟩ := hv
  have hx := B.exec
  have hb := B.bytes
  have hr := B.returns
  have hts := atoms_spec (ws := wsX2_areSame) B.pre
  have hown : s.vm.findClass RX2 = some m.cls := findClass_of_methodNamed B.named
  have hlocks := B.notSynchronized
  have hl := lv_entry ([.null, .ref q2]) (n := 2) (Nat.le_of_ble_eq_true rfl)
  rw [lg_entry_eq]
  generalize (lg_sl ([.null, .ref q2]) ++ List.replicate (2 - (lg_sl ([.null, .ref q2])).length) Slot.unset).toArray = ls at hl ⊢
  have hl : lv_has ls 2 [(0, .null), (1, .ref q2)] := hl
  have h_X2 : ∀ w ∈ wsX20, w ∈ wsX2_areSame := fun _ h => List.mem_cons_of_mem _ (List.mem_append_right _ h)
  obtain ⟨h1, h2⟩ := hI
  obtain ⟨b2, f2, s2, rfl, hg2, hE2⟩ := h2
  refine lv_aload_nN hx hb dX2_areSame_0 rfl (lv_at hl 0 rfl) ?_
  refine lv_ifnullN (tgt := 8) hx hb dX2_areSame_1 (by decide) ?_
  refine lv_aload_nN hx hb dX2_areSame_8 rfl (lv_at hl 0 rfl) ?_
  refine lv_ifnonnullN hx hb dX2_areSame_9 ?_
  refine lv_aload_n hx hb dX2_areSame_12 rfl (lv_at hl 1 rfl) ?_
  refine lv_ifnonnull (tgt := 20) hx hb dX2_areSame_13 (by decide) ?_
  refine lv_iconst (v := 0) hx hb dX2_areSame_20 (by decide) ?_
  exact xr_zret hx hb hr hlocks (b := decide (x1 = (enc b2 f2 s2))) (by rw [show x1 = 0 from h1, show decide ((0 : Int32) = enc b2 f2 s2) = false from decide_eq_false (fun q => enc_ne hg2 q.symm)]; rfl) dX2_areSame_21
set_option maxHeartbeats 4000000 in
set_option maxRecDepth 100000 in
theorem c_X2_areSame_10 (l : Launch) (D : va_G) (cA : Nat → ClassId) (q1 q2 : Nat) (x1 x2 : Int32) : Met l yX2_areSame wsX2_areSame (rmK 0 0 0) (xP D cA [.ref q1, .null] (fun H => eR D (some q1) x1 H ∧ eR D none x2 H)) (xR (some (.int (bI (decide (x1 = x2)))))) 0 0 (fun _ => False) := by
  refine Met.ofW (cc := cX2_areSame) (maxL := 2) (ret := (some .boolean)) (by decide) rfl ?_
  intro p e s m args below meth c s₁ B hml hv
  obtain ⟨rfl, hK, hI⟩ := hv
  have hx := B.exec
  have hb := B.bytes
  have hr := B.returns
  have hts := atoms_spec (ws := wsX2_areSame) B.pre
  have hown : s.vm.findClass RX2 = some m.cls := findClass_of_methodNamed B.named
  have hlocks := B.notSynchronized
  have hl := lv_entry ([.ref q1, .null]) (n := 2) (Nat.le_of_ble_eq_true rfl)
  rw [lg_entry_eq]
  generalize (lg_sl ([.ref q1, .null]) ++ List.replicate (2 - (lg_sl ([.ref q1, .null])).length) Slot.unset).toArray = ls at hl ⊢
  have hl : lv_has ls 2 [(0, .ref q1), (1, .null)] := hl
  have h_X2 : ∀ w ∈ wsX20, w ∈ wsX2_areSame := fun _ h => List.mem_cons_of_mem _ (List.mem_append_right _ h)
  obtain ⟨h1, h2⟩ := hI
  obtain ⟨b1, f1, s1, rfl, hg1, hE1⟩ := h1
  refine lv_aload_n hx hb dX2_areSame_0 rfl (lv_at hl 0 rfl) ?_
  refine lv_ifnull hx hb dX2_areSame_1 ?_
  refine lv_aload_nN hx hb dX2_areSame_4 rfl (lv_at hl 1 rfl) ?_
  refine lv_ifnonnullN hx hb dX2_areSame_5 ?_
  refine lv_aload_n hx hb dX2_areSame_8 rfl (lv_at hl 0 rfl) ?_
  refine lv_ifnonnull (tgt := 20) hx hb dX2_areSame_9 (by decide) ?_
  refine lv_iconst (v := 0) hx hb dX2_areSame_20 (by decide) ?_
  exact xr_zret hx hb hr hlocks (b := decide ((enc b1 f1 s1) = x2)) (by rw [show x2 = 0 from h2, show decide (enc b1 f1 s1 = (0 : Int32)) = false from decide_eq_false (enc_ne hg1)]; rfl) dX2_areSame_21
set_option maxHeartbeats 4000000 in
set_option maxRecDepth 100000 in
theorem c_X2_areSame_11 (l : Launch) (D : va_G) (cA : Nat → ClassId) (q1 q2 : Nat) (x1 x2 : Int32) : Met l yX2_areSame wsX2_areSame (rmK 0 0 0) (xP D cA [.ref q1, .ref q2] (fun H => eR D (some q1) x1 H ∧ eR D (some q2) x2 H)) (xR (some (.int (bI (decide (x1 = x2)))))) 0 0 (fun _ => False) := by
  refine Met.ofW (cc := cX2_areSame) (maxL := 2) (ret := (some .boolean)) (by decide) rfl ?_
  intro p e s m args below meth c s₁ B hml hv
  obtain ⟨rfl, hK, hI⟩ := hv
  have hx := B.exec
  have hb := B.bytes
  have hr := B.returns
  have hts := atoms_spec (ws := wsX2_areSame) B.pre
  have hown : s.vm.findClass RX2 = some m.cls := findClass_of_methodNamed B.named
  have hlocks := B.notSynchronized
  have hl := lv_entry ([.ref q1, .ref q2]) (n := 2) (Nat.le_of_ble_eq_true rfl)
  rw [lg_entry_eq]
  generalize (lg_sl ([.ref q1, .ref q2]) ++ List.replicate (2 - (lg_sl ([.ref q1, .ref q2])).length) Slot.unset).toArray = ls at hl ⊢
  have hl : lv_has ls 2 [(0, .ref q1), (1, .ref q2)] := hl
  have h_X2 : ∀ w ∈ wsX20, w ∈ wsX2_areSame := fun _ h => List.mem_cons_of_mem _ (List.mem_append_right _ h)
  obtain ⟨h1, h2⟩ := hI
  obtain ⟨b1, f1, s1, rfl, hg1, hE1⟩ := h1
  obtain ⟨b2, f2, s2, rfl, hg2, hE2⟩ := h2
  refine lv_aload_n hx hb dX2_areSame_0 rfl (lv_at hl 0 rfl) ?_
  refine lv_ifnull hx hb dX2_areSame_1 ?_
  refine lv_aload_n hx hb dX2_areSame_4 rfl (lv_at hl 1 rfl) ?_
  refine lv_ifnonnull (tgt := 22) hx hb dX2_areSame_5 (by decide) ?_
  refine lv_aload_n hx hb dX2_areSame_22 rfl (lv_at hl 0 rfl) ?_
  refine x_get (v := .int b1) hx hb hts h_X2 hown hK hE1 rfl 0 (by decide) (hts (.fieldLink RX2 7 "ConfigBeacon$Entry" "base" "I") (by decide +kernel)) (fun _ h => h) rfl dX2_areSame_23 ?_
  refine lv_aload_n hx hb dX2_areSame_26 rfl (lv_at hl 1 rfl) ?_
  refine x_get (v := .int b2) hx hb hts h_X2 hown hK hE2 rfl 0 (by decide) (hts (.fieldLink RX2 7 "ConfigBeacon$Entry" "base" "I") (by decide +kernel)) (fun _ h => h) rfl dX2_areSame_27 ?_
  refine lv_icmp_ne (tgt := 59) hx hb dX2_areSame_30 (by decide) (fun c_1 => ?_) (fun c_1 => ?_)
  · refine lv_iconst (v := 0) hx hb dX2_areSame_59 (by decide) ?_
    exact xr_zret hx hb hr hlocks (b := decide ((enc b1 f1 s1) = (enc b2 f2 s2))) (by rw [show decide (enc b1 f1 s1 = enc b2 f2 s2) = false from decide_eq_false (fun q => c_1 ((enc_inj hg1 hg2).mp q).1)]; rfl) dX2_areSame_60
  · refine lv_aload_n hx hb dX2_areSame_33 rfl (lv_at hl 0 rfl) ?_
    refine x_get (v := .int f1) hx hb hts h_X2 hown hK hE1 rfl 1 (by decide) (hts (.fieldLink RX2 13 "ConfigBeacon$Entry" "first" "I") (by decide +kernel)) (fun _ h => h) rfl dX2_areSame_34 ?_
    refine lv_aload_n hx hb dX2_areSame_37 rfl (lv_at hl 1 rfl) ?_
    refine x_get (v := .int f2) hx hb hts h_X2 hown hK hE2 rfl 1 (by decide) (hts (.fieldLink RX2 13 "ConfigBeacon$Entry" "first" "I") (by decide +kernel)) (fun _ h => h) rfl dX2_areSame_38 ?_
    refine lv_icmp_ne (tgt := 59) hx hb dX2_areSame_41 (by decide) (fun c_2 => ?_) (fun c_2 => ?_)
    · refine lv_iconst (v := 0) hx hb dX2_areSame_59 (by decide) ?_
      exact xr_zret hx hb hr hlocks (b := decide ((enc b1 f1 s1) = (enc b2 f2 s2))) (by rw [show decide (enc b1 f1 s1 = enc b2 f2 s2) = false from decide_eq_false (fun q => c_2 ((enc_inj hg1 hg2).mp q).2.1)]; rfl) dX2_areSame_60
    · refine lv_aload_n hx hb dX2_areSame_44 rfl (lv_at hl 0 rfl) ?_
      refine x_get (v := .int s1) hx hb hts h_X2 hown hK hE1 rfl 2 (by decide) (hts (.fieldLink RX2 16 "ConfigBeacon$Entry" "second" "I") (by decide +kernel)) (fun _ h => h) rfl dX2_areSame_45 ?_
      refine lv_aload_n hx hb dX2_areSame_48 rfl (lv_at hl 1 rfl) ?_
      refine x_get (v := .int s2) hx hb hts h_X2 hown hK hE2 rfl 2 (by decide) (hts (.fieldLink RX2 16 "ConfigBeacon$Entry" "second" "I") (by decide +kernel)) (fun _ h => h) rfl dX2_areSame_49 ?_
      refine lv_icmp_ne (tgt := 59) hx hb dX2_areSame_52 (by decide) (fun c_3 => ?_) (fun c_3 => ?_)
      · refine lv_iconst (v := 0) hx hb dX2_areSame_59 (by decide) ?_
        exact xr_zret hx hb hr hlocks (b := decide ((enc b1 f1 s1) = (enc b2 f2 s2))) (by rw [show decide (enc b1 f1 s1 = enc b2 f2 s2) = false from decide_eq_false (fun q => c_3 ((enc_inj hg1 hg2).mp q).2.2)]; rfl) dX2_areSame_60
      · refine lv_iconst (v := 1) hx hb dX2_areSame_55 (by decide) ?_
        refine lv_goto (tgt := 60) hx hb dX2_areSame_56 (by decide) ?_
        exact xr_zret hx hb hr hlocks (b := decide ((enc b1 f1 s1) = (enc b2 f2 s2))) (by rw [show decide (enc b1 f1 s1 = enc b2 f2 s2) = true from decide_eq_true ((enc_inj hg1 hg2).mpr ⟨c_1, c_2, c_3⟩)]; rfl) dX2_areSame_60
theorem c_X2_areSame (l : Launch) (D : va_G) (cA : Nat → ClassId) (o1 o2 : Option Nat) (x1 x2 : Int32) : Met l yX2_areSame wsX2_areSame (rmK 0 0 0) (xP D cA [va_rf o1, va_rf o2] (fun H => eR D o1 x1 H ∧ eR D o2 x2 H)) (xR (some (.int (bI (decide (x1 = x2)))))) 0 0 (fun _ => False) := by
  cases o1 with
  | none =>
    cases o2 with
    | none => exact c_X2_areSame_00 l D cA 0 0 x1 x2
    | some q2 => exact c_X2_areSame_01 l D cA 0 q2 x1 x2
  | some q1 =>
    cases o2 with
    | none => exact c_X2_areSame_10 l D cA q1 0 x1 x2
    | some q2 => exact c_X2_areSame_11 l D cA q1 q2 x1 x2
set_option maxHeartbeats 4000000 in
set_option maxRecDepth 100000 in
theorem c_X1_entryOf (l : Launch) (D : va_G) (cA : Nat → ClassId) (a ea : Nat) (g : Nat → Option Nat) (i j : Nat) (hi : i < 8) (hj : j < 16) (ov : Option Nat) (hov : g (16 * i + j) = ov) : Met l yX1_entryOf wsX1_entryOf (rmK 0 0 0) (xP D cA [.ref a, .int (nI i), .int (nI j)] (fun H => xO D a 2 [.ref ea] H ∧ xQ (cA 2) ea 128 g H)) (xR (some (va_rf ov))) 0 0 (fun _ => False) := by
  refine Met.ofW (cc := cX1_entryOf) (maxL := 3) (ret := (some (.object "ConfigBeacon$Entry"))) (by decide) rfl ?_
  intro p e s m args below meth c s₁ B hml hv
  obtain ⟨rfl, hK, hI⟩ := hv
  have hx := B.exec
  have hb := B.bytes
  have hr := B.returns
  have hts := atoms_spec (ws := wsX1_entryOf) B.pre
  have hown : s.vm.findClass RX1 = some m.cls := findClass_of_methodNamed B.named
  have hlocks := B.notSynchronized
  have hl := lv_entry ([.ref a, .int (nI i), .int (nI j)]) (n := 3) (Nat.le_of_ble_eq_true rfl)
  rw [lg_entry_eq]
  generalize (lg_sl ([.ref a, .int (nI i), .int (nI j)]) ++ List.replicate (3 - (lg_sl ([.ref a, .int (nI i), .int (nI j)])).length) Slot.unset).toArray = ls at hl ⊢
  have hl : lv_has ls 3 [(0, .ref a), (1, .int (nI i)), (2, .int (nI j))] := hl
  have h_X1 : ∀ w ∈ wsX10, w ∈ wsX1_entryOf := fun _ h => List.mem_cons_of_mem _ (List.mem_append_right _ h)
  obtain ⟨hO, hQ⟩ := hI
  refine lv_aload_n hx hb dX1_entryOf_0 rfl (lv_at hl 0 rfl) ?_
  refine x_get (v := .ref ea) hx hb hts h_X1 hown hK hO rfl 0 (by decide) (hts (.fieldLink RX1 11 "ConfigBeacon$Entries" "all" "[LConfigBeacon$Entry;") (by decide +kernel)) (fun _ h => h) rfl dX1_entryOf_1 ?_
  refine lv_iload_n hx hb dX1_entryOf_4 rfl (lv_at hl 1 rfl) ?_
  refine lv_bipush (v := 16) hx hb dX1_entryOf_5 (by decide) ?_
  refine xe_imul hx hb (pk_mul i 16) dX1_entryOf_7 ?_
  refine lv_iload_n hx hb dX1_entryOf_8 rfl (lv_at hl 2 rfl) ?_
  refine xe_iadd hx hb (nI_add (i * 16) j) dX1_entryOf_9 ?_
  refine x_aald hx hb hK 2 rfl hQ ((i * 16) + j) rfl (by omega) (by decide) (v := ov) (by rw [show i * 16 + j = 16 * i + j by omega]; exact hov) dX1_entryOf_10 ?_
  exact xr_aret hx hb hr rfl hlocks rfl dX1_entryOf_11
