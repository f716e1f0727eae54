set_option maxHeartbeats 4000000 in
set_option maxRecDepth 100000 in
theorem c_X6_isSetting (l : Launch) (D : va_G) (cA : Nat → ClassId) (v : Int32) : Met l yX6_isSetting wsX6_isSetting (rmK 0 0 0) (xP D cA [.int v] (fun _ => True)) (xR (some (.int (bI (okS v))))) 0 0 (fun _ => False) := by
  refine Met.ofW (cc := cX6_isSetting) (maxL := 1) (ret := (some .boolean)) (by decide) rfl ?_
  intro p e s m args below meth c s₁ B hml hv
  obtain ⟨rfl, hK, hI⟩ := hv
  have hx := B.exec
  have hb := B.bytes
  have hr := B.returns
  have hts := atoms_spec (ws := wsX6_isSetting) B.pre
  have hown : s.vm.findClass RX6 = some m.cls := findClass_of_methodNamed B.named
  have hlocks := B.notSynchronized
  have hl := lv_entry ([.int v]) (n := 1) (Nat.le_of_ble_eq_true rfl)
  rw [lg_entry_eq]
  generalize (lg_sl ([.int v]) ++ List.replicate (1 - (lg_sl ([.int v])).length) Slot.unset).toArray = ls at hl ⊢
  have hl : lv_has ls 1 [(0, .int v)] := hl
  refine lv_iload_n hx hb dX6_isSetting_0 rfl (lv_at hl 0 rfl) ?_
  refine lv_if_lt (tgt := 14) hx hb dX6_isSetting_1 (by decide) (fun c_1 => ?_) (fun c_1 => ?_)
  · refine lv_iconst (v := 0) hx hb dX6_isSetting_14 (by decide) ?_
    exact xr_zret hx hb hr hlocks (by first | (simp [okS_c, bI, c_1, Int32.not_le.mpr c_1]; done) | (simp_all [okS_c, bI]; done) | (simp [okS_c, bI, c_1, Int32.not_le.mpr c_1]; omega)) dX6_isSetting_15
  · refine lv_iload_n hx hb dX6_isSetting_4 rfl (lv_at hl 0 rfl) ?_
    refine lv_bipush (v := 16) hx hb dX6_isSetting_5 (by decide) ?_
    refine lv_icmp_ge (tgt := 14) hx hb dX6_isSetting_7 (by decide) (fun c_2 => ?_) (fun c_2 => ?_)
    · refine lv_iconst (v := 0) hx hb dX6_isSetting_14 (by decide) ?_
      exact xr_zret hx hb hr hlocks (by first | (simp [okS_c, bI, c_1, Int32.not_lt.mp c_1, c_2, Int32.not_lt.mpr c_2]; done) | (simp_all [okS_c, bI]; done) | (simp [okS_c, bI, c_1, Int32.not_lt.mp c_1, c_2, Int32.not_lt.mpr c_2]; omega)) dX6_isSetting_15
    · refine lv_iconst (v := 1) hx hb dX6_isSetting_10 (by decide) ?_
      refine lv_goto (tgt := 15) hx hb dX6_isSetting_11 (by decide) ?_
      exact xr_zret hx hb hr hlocks (by first | (simp [okS_c, bI, c_1, Int32.not_lt.mp c_1, c_2, Int32.not_le.mp c_2]; done) | (simp_all [okS_c, bI]; done) | (simp [okS_c, bI, c_1, Int32.not_lt.mp c_1, c_2, Int32.not_le.mp c_2]; omega)) dX6_isSetting_15
set_option maxHeartbeats 4000000 in
set_option maxRecDepth 100000 in
theorem c_X6_isArea (l : Launch) (D : va_G) (cA : Nat → ClassId) (v : Int32) : Met l yX6_isArea wsX6_isArea (rmK 0 0 0) (xP D cA [.int v] (fun _ => True)) (xR (some (.int (bI (ok8 v))))) 0 0 (fun _ => False) := by
  refine Met.ofW (cc := cX6_isArea) (maxL := 1) (ret := (some .boolean)) (by decide) rfl ?_
  intro p e s m args below meth c s₁ B hml hv
  obtain ⟨rfl, hK, hI⟩ := hv
  have hx := B.exec
  have hb := B.bytes
  have hr := B.returns
  have hts := atoms_spec (ws := wsX6_isArea) B.pre
  have hown : s.vm.findClass RX6 = some m.cls := findClass_of_methodNamed B.named
  have hlocks := B.notSynchronized
  have hl := lv_entry ([.int v]) (n := 1) (Nat.le_of_ble_eq_true rfl)
  rw [lg_entry_eq]
  generalize (lg_sl ([.int v]) ++ List.replicate (1 - (lg_sl ([.int v])).length) Slot.unset).toArray = ls at hl ⊢
  have hl : lv_has ls 1 [(0, .int v)] := hl
  refine lv_iload_n hx hb dX6_isArea_0 rfl (lv_at hl 0 rfl) ?_
  refine lv_if_lt (tgt := 14) hx hb dX6_isArea_1 (by decide) (fun c_1 => ?_) (fun c_1 => ?_)
  · refine lv_iconst (v := 0) hx hb dX6_isArea_14 (by decide) ?_
    exact xr_zret hx hb hr hlocks (by first | (simp [ok8_c, bI, c_1, Int32.not_le.mpr c_1]; done) | (simp_all [ok8_c, bI]; done) | (simp [ok8_c, bI, c_1, Int32.not_le.mpr c_1]; omega)) dX6_isArea_15
  · refine lv_iload_n hx hb dX6_isArea_4 rfl (lv_at hl 0 rfl) ?_
    refine lv_bipush (v := 8) hx hb dX6_isArea_5 (by decide) ?_
    refine lv_icmp_ge (tgt := 14) hx hb dX6_isArea_7 (by decide) (fun c_2 => ?_) (fun c_2 => ?_)
    · refine lv_iconst (v := 0) hx hb dX6_isArea_14 (by decide) ?_
      exact xr_zret hx hb hr hlocks (by first | (simp [ok8_c, bI, c_1, Int32.not_lt.mp c_1, c_2, Int32.not_lt.mpr c_2]; done) | (simp_all [ok8_c, bI]; done) | (simp [ok8_c, bI, c_1, Int32.not_lt.mp c_1, c_2, Int32.not_lt.mpr c_2]; omega)) dX6_isArea_15
    · refine lv_iconst (v := 1) hx hb dX6_isArea_10 (by decide) ?_
      refine lv_goto (tgt := 15) hx hb dX6_isArea_11 (by decide) ?_
      exact xr_zret hx hb hr hlocks (by first | (simp [ok8_c, bI, c_1, Int32.not_lt.mp c_1, c_2, Int32.not_le.mp c_2]; done) | (simp_all [ok8_c, bI]; done) | (simp [ok8_c, bI, c_1, Int32.not_lt.mp c_1, c_2, Int32.not_le.mp c_2]; omega)) dX6_isArea_15
set_option maxHeartbeats 4000000 in
set_option maxRecDepth 100000 in
theorem c_X6_isPrecedence (l : Launch) (D : va_G) (cA : Nat → ClassId) (v : Int32) : Met l yX6_isPrecedence wsX6_isPrecedence (rmK 0 0 0) (xP D cA [.int v] (fun _ => True)) (xR (some (.int (bI (inB v 0 99))))) 0 0 (fun _ => False) := by
  refine Met.ofW (cc := cX6_isPrecedence) (maxL := 1) (ret := (some .boolean)) (by decide) rfl ?_
  intro p e s m args below meth c s₁ B hml hv
  obtain ⟨rfl, hK, hI⟩ := hv
  have hx := B.exec
  have hb := B.bytes
  have hr := B.returns
  have hts := atoms_spec (ws := wsX6_isPrecedence) B.pre
  have hown : s.vm.findClass RX6 = some m.cls := findClass_of_methodNamed B.named
  have hlocks := B.notSynchronized
  have hl := lv_entry ([.int v]) (n := 1) (Nat.le_of_ble_eq_true rfl)
  rw [lg_entry_eq]
  generalize (lg_sl ([.int v]) ++ List.replicate (1 - (lg_sl ([.int v])).length) Slot.unset).toArray = ls at hl ⊢
  have hl : lv_has ls 1 [(0, .int v)] := hl
  refine lv_iload_n hx hb dX6_isPrecedence_0 rfl (lv_at hl 0 rfl) ?_
  refine lv_if_lt (tgt := 14) hx hb dX6_isPrecedence_1 (by decide) (fun c_1 => ?_) (fun c_1 => ?_)
  · refine lv_iconst (v := 0) hx hb dX6_isPrecedence_14 (by decide) ?_
    exact xr_zret hx hb hr hlocks (by first | (simp [inB, bI, c_1, Int32.not_le.mpr c_1]; done) | (simp_all [inB, bI]; done) | (simp [inB, bI, c_1, Int32.not_le.mpr c_1]; omega)) dX6_isPrecedence_15
  · refine lv_iload_n hx hb dX6_isPrecedence_4 rfl (lv_at hl 0 rfl) ?_
    refine lv_bipush (v := 99) hx hb dX6_isPrecedence_5 (by decide) ?_
    refine lv_icmp_gt (tgt := 14) hx hb dX6_isPrecedence_7 (by decide) (fun c_2 => ?_) (fun c_2 => ?_)
    · refine lv_iconst (v := 0) hx hb dX6_isPrecedence_14 (by decide) ?_
      exact xr_zret hx hb hr hlocks (by first | (simp [inB, bI, c_1, Int32.not_lt.mp c_1, c_2, Int32.not_le.mpr c_2]; done) | (simp_all [inB, bI]; done) | (simp [inB, bI, c_1, Int32.not_lt.mp c_1, c_2, Int32.not_le.mpr c_2]; omega)) dX6_isPrecedence_15
    · refine lv_iconst (v := 1) hx hb dX6_isPrecedence_10 (by decide) ?_
      refine lv_goto (tgt := 15) hx hb dX6_isPrecedence_11 (by decide) ?_
      exact xr_zret hx hb hr hlocks (by first | (simp [inB, bI, c_1, Int32.not_lt.mp c_1, c_2, Int32.not_lt.mp c_2]; done) | (simp_all [inB, bI]; done) | (simp [inB, bI, c_1, Int32.not_lt.mp c_1, c_2, Int32.not_lt.mp c_2]; omega)) dX6_isPrecedence_15
set_option maxHeartbeats 4000000 in
set_option maxRecDepth 100000 in
theorem c_X6_isNumber (l : Launch) (D : va_G) (cA : Nat → ClassId) (v : Int32) : Met l yX6_isNumber wsX6_isNumber (rmK 0 0 0) (xP D cA [.int v] (fun _ => True)) (xR (some (.int (bI (okB v))))) 0 0 (fun _ => False) := by
  refine Met.ofW (cc := cX6_isNumber) (maxL := 1) (ret := (some .boolean)) (by decide) rfl ?_
  intro p e s m args below meth c s₁ B hml hv
  obtain ⟨rfl, hK, hI⟩ := hv
  have hx := B.exec
  have hb := B.bytes
  have hr := B.returns
  have hts := atoms_spec (ws := wsX6_isNumber) B.pre
  have hown : s.vm.findClass RX6 = some m.cls := findClass_of_methodNamed B.named
  have hlocks := B.notSynchronized
  have hl := lv_entry ([.int v]) (n := 1) (Nat.le_of_ble_eq_true rfl)
  rw [lg_entry_eq]
  generalize (lg_sl ([.int v]) ++ List.replicate (1 - (lg_sl ([.int v])).length) Slot.unset).toArray = ls at hl ⊢
  have hl : lv_has ls 1 [(0, .int v)] := hl
  refine lv_iload_n hx hb dX6_isNumber_0 rfl (lv_at hl 0 rfl) ?_
  refine lv_sipush (v := (-9999)) hx hb dX6_isNumber_1 (by decide) ?_
  refine lv_icmp_lt (tgt := 18) hx hb dX6_isNumber_4 (by decide) (fun c_1 => ?_) (fun c_1 => ?_)
  · refine lv_iconst (v := 0) hx hb dX6_isNumber_18 (by decide) ?_
    exact xr_zret hx hb hr hlocks (by first | (simp [okB, inB, bI, c_1, Int32.not_le.mpr c_1]; done) | (simp_all [okB, inB, bI]; done) | (simp [okB, inB, bI, c_1, Int32.not_le.mpr c_1]; omega)) dX6_isNumber_19
  · refine lv_iload_n hx hb dX6_isNumber_7 rfl (lv_at hl 0 rfl) ?_
    refine lv_sipush (v := 9999) hx hb dX6_isNumber_8 (by decide) ?_
    refine lv_icmp_gt (tgt := 18) hx hb dX6_isNumber_11 (by decide) (fun c_2 => ?_) (fun c_2 => ?_)
    · refine lv_iconst (v := 0) hx hb dX6_isNumber_18 (by decide) ?_
      exact xr_zret hx hb hr hlocks (by first | (simp [okB, inB, bI, c_1, Int32.not_lt.mp c_1, c_2, Int32.not_le.mpr c_2]; done) | (simp_all [okB, inB, bI]; done) | (simp [okB, inB, bI, c_1, Int32.not_lt.mp c_1, c_2, Int32.not_le.mpr c_2]; omega)) dX6_isNumber_19
    · refine lv_iconst (v := 1) hx hb dX6_isNumber_14 (by decide) ?_
      refine lv_goto (tgt := 19) hx hb dX6_isNumber_15 (by decide) ?_
      exact xr_zret hx hb hr hlocks (by first | (simp [okB, inB, bI, c_1, Int32.not_lt.mp c_1, c_2, Int32.not_lt.mp c_2]; done) | (simp_all [okB, inB, bI]; done) | (simp [okB, inB, bI, c_1, Int32.not_lt.mp c_1, c_2, Int32.not_lt.mp c_2]; omega)) dX6_isNumber_19
set_option maxHeartbeats 4000000 in
set_option maxRecDepth 100000 in
theorem c_X6_isOwner (l : Launch) (D : va_G) (cA : Nat → ClassId) (v : Int32) : Met l yX6_isOwner wsX6_isOwner (rmK 0 0 0) (xP D cA [.int v] (fun _ => True)) (xR (some (.int (bI (okO v))))) 0 0 (fun _ => False) := by
  refine Met.ofW (cc := cX6_isOwner) (maxL := 1) (ret := (some .boolean)) (by decide) rfl ?_
  intro p e s m args below meth c s₁ B hml hv
  obtain ⟨rfl, hK, hI⟩ := hv
  have hx := B.exec
  have hb := B.bytes
  have hr := B.returns
  have hts := atoms_spec (ws := wsX6_isOwner) B.pre
  have hown : s.vm.findClass RX6 = some m.cls := findClass_of_methodNamed B.named
  have hlocks := B.notSynchronized
  have hl := lv_entry ([.int v]) (n := 1) (Nat.le_of_ble_eq_true rfl)
  rw [lg_entry_eq]
  generalize (lg_sl ([.int v]) ++ List.replicate (1 - (lg_sl ([.int v])).length) Slot.unset).toArray = ls at hl ⊢
  have hl : lv_has ls 1 [(0, .int v)] := hl
  refine lv_iload_n hx hb dX6_isOwner_0 rfl (lv_at hl 0 rfl) ?_
  refine lv_if_le (tgt := 14) hx hb dX6_isOwner_1 (by decide) (fun c_1 => ?_) (fun c_1 => ?_)
  · refine lv_iconst (v := 0) hx hb dX6_isOwner_14 (by decide) ?_
    exact xr_zret hx hb hr hlocks (by first | (simp [okO_c, bI, c_1, Int32.not_lt.mpr c_1]; done) | (simp_all [okO_c, bI]; done) | (simp [okO_c, bI, c_1, Int32.not_lt.mpr c_1]; omega)) dX6_isOwner_15
  · refine lv_iload_n hx hb dX6_isOwner_4 rfl (lv_at hl 0 rfl) ?_
    refine lv_bipush (v := 9) hx hb dX6_isOwner_5 (by decide) ?_
    refine lv_icmp_gt (tgt := 14) hx hb dX6_isOwner_7 (by decide) (fun c_2 => ?_) (fun c_2 => ?_)
    · refine lv_iconst (v := 0) hx hb dX6_isOwner_14 (by decide) ?_
      exact xr_zret hx hb hr hlocks (by first | (simp [okO_c, bI, c_1, Int32.not_le.mp c_1, c_2, Int32.not_le.mpr c_2]; done) | (simp_all [okO_c, bI]; done) | (simp [okO_c, bI, c_1, Int32.not_le.mp c_1, c_2, Int32.not_le.mpr c_2]; omega)) dX6_isOwner_15
    · refine lv_iconst (v := 1) hx hb dX6_isOwner_10 (by decide) ?_
      refine lv_goto (tgt := 15) hx hb dX6_isOwner_11 (by decide) ?_
      exact xr_zret hx hb hr hlocks (by first | (simp [okO_c, bI, c_1, Int32.not_le.mp c_1, c_2, Int32.not_lt.mp c_2]; done) | (simp_all [okO_c, bI]; done) | (simp [okO_c, bI, c_1, Int32.not_le.mp c_1, c_2, Int32.not_lt.mp c_2]; omega)) dX6_isOwner_15
set_option maxHeartbeats 4000000 in
set_option maxRecDepth 100000 in
theorem c_X6_isNewShare (l : Launch) (D : va_G) (cA : Nat → ClassId) (v : Int32) : Met l yX6_isNewShare wsX6_isNewShare (rmK 0 0 0) (xP D cA [.int v] (fun _ => True)) (xR (some (.int (bI (inB v 1 100))))) 0 0 (fun _ => False) := by
  refine Met.ofW (cc := cX6_isNewShare) (maxL := 1) (ret := (some .boolean)) (by decide) rfl ?_
  intro p e s m args below meth c s₁ B hml hv
  obtain ⟨rfl, hK, hI⟩ := hv
  have hx := B.exec
  have hb := B.bytes
  have hr := B.returns
  have hts := atoms_spec (ws := wsX6_isNewShare) B.pre
  have hown : s.vm.findClass RX6 = some m.cls := findClass_of_methodNamed B.named
  have hlocks := B.notSynchronized
  have hl := lv_entry ([.int v]) (n := 1) (Nat.le_of_ble_eq_true rfl)
  rw [lg_entry_eq]
  generalize (lg_sl ([.int v]) ++ List.replicate (1 - (lg_sl ([.int v])).length) Slot.unset).toArray = ls at hl ⊢
  have hl : lv_has ls 1 [(0, .int v)] := hl
  refine lv_iload_n hx hb dX6_isNewShare_0 rfl (lv_at hl 0 rfl) ?_
  refine lv_if_le (tgt := 14) hx hb dX6_isNewShare_1 (by decide) (fun c_1 => ?_) (fun c_1 => ?_)
  · refine lv_iconst (v := 0) hx hb dX6_isNewShare_14 (by decide) ?_
    exact xr_zret hx hb hr hlocks (by first | (simp [okW_c, bI, c_1, Int32.not_lt.mpr c_1]; done) | (simp_all [okW_c, bI]; done) | (simp [okW_c, bI, c_1, Int32.not_lt.mpr c_1]; omega)) dX6_isNewShare_15
  · refine lv_iload_n hx hb dX6_isNewShare_4 rfl (lv_at hl 0 rfl) ?_
    refine lv_bipush (v := 100) hx hb dX6_isNewShare_5 (by decide) ?_
    refine lv_icmp_gt (tgt := 14) hx hb dX6_isNewShare_7 (by decide) (fun c_2 => ?_) (fun c_2 => ?_)
    · refine lv_iconst (v := 0) hx hb dX6_isNewShare_14 (by decide) ?_
      exact xr_zret hx hb hr hlocks (by first | (simp [okW_c, bI, c_1, Int32.not_le.mp c_1, c_2, Int32.not_le.mpr c_2]; done) | (simp_all [okW_c, bI]; done) | (simp [okW_c, bI, c_1, Int32.not_le.mp c_1, c_2, Int32.not_le.mpr c_2]; omega)) dX6_isNewShare_15
    · refine lv_iconst (v := 1) hx hb dX6_isNewShare_10 (by decide) ?_
      refine lv_goto (tgt := 15) hx hb dX6_isNewShare_11 (by decide) ?_
      exact xr_zret hx hb hr hlocks (by first | (simp [okW_c, bI, c_1, Int32.not_le.mp c_1, c_2, Int32.not_lt.mp c_2]; done) | (simp_all [okW_c, bI]; done) | (simp [okW_c, bI, c_1, Int32.not_le.mp c_1, c_2, Int32.not_lt.mp c_2]; omega)) dX6_isNewShare_15
set_option maxHeartbeats 4000000 in
set_option maxRecDepth 100000 in
theorem c_X6_isLockable (l : Launch) (D : va_G) (cA : Nat → ClassId) (v : Int32) : Met l yX6_isLockable wsX6_isLockable (rmK 1 0 0) (xP D cA [.int v] (fun _ => True)) (xR (some (.int (bI (decide (v = -1) || okS v))))) 0 0 (fun _ => False) := by
  refine Met.ofW (cc := cX6_isLockable) (maxL := 1) (ret := (some .boolean)) (by decide) rfl ?_
  intro p e s m args below meth c s₁ B hml hv
  obtain ⟨rfl, hK, hI⟩ := hv
  have hx := B.exec
  have hb := B.bytes
  have hr := B.returns
  have hts := atoms_spec (ws := wsX6_isLockable) B.pre
  have hown : s.vm.findClass RX6 = some m.cls := findClass_of_methodNamed B.named
  have hlocks := B.notSynchronized
  have hl := lv_entry ([.int v]) (n := 1) (Nat.le_of_ble_eq_true rfl)
  rw [lg_entry_eq]
  generalize (lg_sl ([.int v]) ++ List.replicate (1 - (lg_sl ([.int v])).length) Slot.unset).toArray = ls at hl ⊢
  have hl : lv_has ls 1 [(0, .int v)] := hl
  refine lv_iload_n hx hb dX6_isLockable_0 rfl (lv_at hl 0 rfl) ?_
  refine lv_iconst (v := (-1)) hx hb dX6_isLockable_1 (by decide) ?_
  refine lv_icmp_eq (tgt := 12) hx hb dX6_isLockable_2 (by decide) (fun c_1 => ?_) (fun c_1 => ?_)
  · refine lv_iconst (v := 1) hx hb dX6_isLockable_12 (by decide) ?_
    refine lv_goto (tgt := 17) hx hb dX6_isLockable_13 (by decide) ?_
    exact xr_zret hx hb hr hlocks (by first | (simp [bI, c_1]; done) | (simp_all [bI]; done) | (simp [bI, c_1]; omega)) dX6_isLockable_17
  · refine lv_iload_n hx hb dX6_isLockable_5 rfl (lv_at hl 0 rfl) ?_
    refine xr_call (va_runS (As := [.int v]) (rest := []) ⟨hx, hb, hml, hown, hts⟩ (c_X6_isSetting l D cA v) (va_cwS 1 hts gX6_isLockable_X6_isSetting rfl rfl rfl (by decide +kernel) ⟨Nat.le_of_ble_eq_true rfl, Nat.le_of_ble_eq_true rfl⟩) (xPS hK trivial) rfl rfl hl.1 rfl (lv_room (Nat.le_of_ble_eq_true rfl)) dX6_isLockable_6 ⟨Nat.le_of_ble_eq_true rfl, Nat.le_of_ble_eq_true rfl⟩) ?_
    refine xb_eq (tgt := 16) hx hb dX6_isLockable_9 (by decide) (fun c_2 => ?_) (fun c_2 => ?_)
    · refine lv_iconst (v := 0) hx hb dX6_isLockable_16 (by decide) ?_
      exact xr_zret hx hb hr hlocks (by first | (simp [bI, c_1, c_2]; done) | (simp_all [bI]; done) | (simp [bI, c_1, c_2]; omega)) dX6_isLockable_17
    · refine lv_iconst (v := 1) hx hb dX6_isLockable_12 (by decide) ?_
      refine lv_goto (tgt := 17) hx hb dX6_isLockable_13 (by decide) ?_
      exact xr_zret hx hb hr hlocks (by first | (simp [bI, c_1, c_2]; done) | (simp_all [bI]; done) | (simp [bI, c_1, c_2]; omega)) dX6_isLockable_17
set_option maxHeartbeats 4000000 in
set_option maxRecDepth 100000 in
theorem c_X6_isTemplate (l : Launch) (D : va_G) (cA : Nat → ClassId) (v : Int32) (f : Int32) (s2 : Int32) : Met l yX6_isTemplate wsX6_isTemplate (rmK 1 0 0) (xP D cA [.int v, .int f, .int s2] (fun _ => True)) (xR (some (.int (bI (okB v && okT f s2))))) 0 0 (fun _ => False) := by
  refine Met.ofW (cc := cX6_isTemplate) (maxL := 3) (ret := (some .boolean)) (by decide) rfl ?_
  intro p e s m args below meth c s₁ B hml hv
  obtain ⟨rfl, hK, hI⟩ := hv
  have hx := B.exec
  have hb := B.bytes
  have hr := B.returns
  have hts := atoms_spec (ws := wsX6_isTemplate) B.pre
  have hown : s.vm.findClass RX6 = some m.cls := findClass_of_methodNamed B.named
  have hlocks := B.notSynchronized
  have hl := lv_entry ([.int v, .int f, .int s2]) (n := 3) (Nat.le_of_ble_eq_true rfl)
  rw [lg_entry_eq]
  generalize (lg_sl ([.int v, .int f, .int s2]) ++ List.replicate (3 - (lg_sl ([.int v, .int f, .int s2])).length) Slot.unset).toArray = ls at hl ⊢
  have hl : lv_has ls 3 [(0, .int v), (1, .int f), (2, .int s2)] := hl
  refine lv_iload_n hx hb dX6_isTemplate_0 rfl (lv_at hl 0 rfl) ?_
  refine xr_call (va_runS (As := [.int v]) (rest := []) ⟨hx, hb, hml, hown, hts⟩ (c_X6_isNumber l D cA v) (va_cwS 1 hts gX6_isTemplate_X6_isNumber rfl rfl rfl (by decide +kernel) ⟨Nat.le_of_ble_eq_true rfl, Nat.le_of_ble_eq_true rfl⟩) (xPS hK trivial) rfl rfl hl.1 rfl (lv_room (Nat.le_of_ble_eq_true rfl)) dX6_isTemplate_1 ⟨Nat.le_of_ble_eq_true rfl, Nat.le_of_ble_eq_true rfl⟩) ?_
  refine xb_eq (tgt := 30) hx hb dX6_isTemplate_4 (by decide) (fun c_1 => ?_) (fun c_1 => ?_)
  · refine lv_iconst (v := 0) hx hb dX6_isTemplate_30 (by decide) ?_
    exact xr_zret hx hb hr hlocks (by first | (simp [okT, bI, c_1]; done) | (simp_all [okT, bI]; done) | (simp [okT, bI, c_1]; omega)) dX6_isTemplate_31
  · refine lv_iload_n hx hb dX6_isTemplate_7 rfl (lv_at hl 1 rfl) ?_
    refine xr_call (va_runS (As := [.int f]) (rest := []) ⟨hx, hb, hml, hown, hts⟩ (c_X6_isSetting l D cA f) (va_cwS 1 hts gX6_isTemplate_X6_isSetting rfl rfl rfl (by decide +kernel) ⟨Nat.le_of_ble_eq_true rfl, Nat.le_of_ble_eq_true rfl⟩) (xPS hK trivial) rfl rfl hl.1 rfl (lv_room (Nat.le_of_ble_eq_true rfl)) dX6_isTemplate_8 ⟨Nat.le_of_ble_eq_true rfl, Nat.le_of_ble_eq_true rfl⟩) ?_
    refine xb_eq (tgt := 30) hx hb dX6_isTemplate_11 (by decide) (fun c_2 => ?_) (fun c_2 => ?_)
    · refine lv_iconst (v := 0) hx hb dX6_isTemplate_30 (by decide) ?_
      exact xr_zret hx hb hr hlocks (by first | (simp [okT, bI, c_1, c_2]; done) | (simp_all [okT, bI]; done) | (simp [okT, bI, c_1, c_2]; omega)) dX6_isTemplate_31
    · refine lv_iload_n hx hb dX6_isTemplate_14 rfl (lv_at hl 2 rfl) ?_
      refine lv_iconst (v := (-1)) hx hb dX6_isTemplate_15 (by decide) ?_
      refine lv_icmp_eq (tgt := 26) hx hb dX6_isTemplate_16 (by decide) (fun c_3 => ?_) (fun c_3 => ?_)
      · refine lv_iconst (v := 1) hx hb dX6_isTemplate_26 (by decide) ?_
        refine lv_goto (tgt := 31) hx hb dX6_isTemplate_27 (by decide) ?_
        exact xr_zret hx hb hr hlocks (by first | (simp [okT, bI, c_1, c_2, c_3]; done) | (simp_all [okT, bI]; done) | (simp [okT, bI, c_1, c_2, c_3]; omega)) dX6_isTemplate_31
      · refine lv_iload_n hx hb dX6_isTemplate_19 rfl (lv_at hl 2 rfl) ?_
        refine xr_call (va_runS (As := [.int s2]) (rest := []) ⟨hx, hb, hml, hown, hts⟩ (c_X6_isSetting l D cA s2) (va_cwS 1 hts gX6_isTemplate_X6_isSetting rfl rfl rfl (by decide +kernel) ⟨Nat.le_of_ble_eq_true rfl, Nat.le_of_ble_eq_true rfl⟩) (xPS hK trivial) rfl rfl hl.1 rfl (lv_room (Nat.le_of_ble_eq_true rfl)) dX6_isTemplate_20 ⟨Nat.le_of_ble_eq_true rfl, Nat.le_of_ble_eq_true rfl⟩) ?_
        refine xb_eq (tgt := 30) hx hb dX6_isTemplate_23 (by decide) (fun c_4 => ?_) (fun c_4 => ?_)
        · refine lv_iconst (v := 0) hx hb dX6_isTemplate_30 (by decide) ?_
          exact xr_zret hx hb hr hlocks (by first | (simp [okT, bI, c_1, c_2, c_3, c_4]; done) | (simp_all [okT, bI]; done) | (simp [okT, bI, c_1, c_2, c_3, c_4]; omega)) dX6_isTemplate_31
        · refine lv_iconst (v := 1) hx hb dX6_isTemplate_26 (by decide) ?_
          refine lv_goto (tgt := 31) hx hb dX6_isTemplate_27 (by decide) ?_
          exact xr_zret hx hb hr hlocks (by first | (simp [okT, bI, c_1, c_2, c_3, c_4]; done) | (simp_all [okT, bI]; done) | (simp [okT, bI, c_1, c_2, c_3, c_4]; omega)) dX6_isTemplate_31
set_option maxHeartbeats 4000000 in
set_option maxRecDepth 100000 in
theorem c_X6_canSelect (l : Launch) (D : va_G) (cA : Nat → ClassId) (q : Int32) (w9 : Int32) : Met l yX6_canSelect wsX6_canSelect (rmK 1 0 0) (xP D cA [.int q, .int w9] (fun _ => True)) (xR (some (.int (bI (cnF q w9))))) 0 0 (fun _ => False) := by
  refine Met.ofW (cc := cX6_canSelect) (maxL := 2) (ret := (some .boolean)) (by decide) rfl ?_
  intro p e s m args below meth c s₁ B hml hv
  obtain ⟨rfl, hK, hI⟩ := hv
  have hx := B.exec
  have hb := B.bytes
  have hr := B.returns
  have hts := atoms_spec (ws := wsX6_canSelect) B.pre
  have hown : s.vm.findClass RX6 = some m.cls := findClass_of_methodNamed B.named
  have hlocks := B.notSynchronized
  have hl := lv_entry ([.int q, .int w9]) (n := 2) (Nat.le_of_ble_eq_true rfl)
  rw [lg_entry_eq]
  generalize (lg_sl ([.int q, .int w9]) ++ List.replicate (2 - (lg_sl ([.int q, .int w9])).length) Slot.unset).toArray = ls at hl ⊢
  have hl : lv_has ls 2 [(0, .int q), (1, .int w9)] := hl
  refine lv_iload_n hx hb dX6_canSelect_0 rfl (lv_at hl 0 rfl) ?_
  by_cases t_1 : q = 0
  · refine lv_tableIn (tgt := 32) (off := 31) hx hb dX6_canSelect_1 (by rw [t_1]; decide) (by rw [t_1]; decide) (by rw [t_1]; decide) (by decide) ?_
    refine lv_iload_n hx hb dX6_canSelect_32 rfl (lv_at hl 1 rfl) ?_
    refine lv_if_ne (tgt := 40) hx hb dX6_canSelect_33 (by decide) (fun c_2 => ?_) (fun c_2 => ?_)
    · refine lv_iconst (v := 0) hx hb dX6_canSelect_40 (by decide) ?_
      exact xr_zret hx hb hr hlocks (b := cnF q w9) (by rw [t_1, cnF_0]; simp [bI, c_2]) dX6_canSelect_41
    · refine lv_iconst (v := 1) hx hb dX6_canSelect_36 (by decide) ?_
      refine lv_goto (tgt := 41) hx hb dX6_canSelect_37 (by decide) ?_
      exact xr_zret hx hb hr hlocks (b := cnF q w9) (by rw [t_1, cnF_0]; simp [bI, c_2]) dX6_canSelect_41
  by_cases t_3 : q = 1
  · refine lv_tableIn (tgt := 42) (off := 41) hx hb dX6_canSelect_1 (by rw [t_3]; decide) (by rw [t_3]; decide) (by rw [t_3]; decide) (by decide) ?_
    refine lv_iload_n hx hb dX6_canSelect_42 rfl (lv_at hl 1 rfl) ?_
    refine xr_call (va_runS (As := [.int w9]) (rest := []) ⟨hx, hb, hml, hown, hts⟩ (c_X6_isArea l D cA w9) (va_cwS 1 hts gX6_canSelect_X6_isArea rfl rfl rfl (by decide +kernel) ⟨Nat.le_of_ble_eq_true rfl, Nat.le_of_ble_eq_true rfl⟩) (xPS hK trivial) rfl rfl hl.1 rfl (lv_room (Nat.le_of_ble_eq_true rfl)) dX6_canSelect_43 ⟨Nat.le_of_ble_eq_true rfl, Nat.le_of_ble_eq_true rfl⟩) ?_
    exact xr_zret hx hb hr hlocks (b := cnF q w9) (by rw [t_3, cnF_1]) dX6_canSelect_46
  by_cases t_4 : q = 2
  · refine lv_tableIn (tgt := 42) (off := 41) hx hb dX6_canSelect_1 (by rw [t_4]; decide) (by rw [t_4]; decide) (by rw [t_4]; decide) (by decide) ?_
    refine lv_iload_n hx hb dX6_canSelect_42 rfl (lv_at hl 1 rfl) ?_
    refine xr_call (va_runS (As := [.int w9]) (rest := []) ⟨hx, hb, hml, hown, hts⟩ (c_X6_isArea l D cA w9) (va_cwS 1 hts gX6_canSelect_X6_isArea rfl rfl rfl (by decide +kernel) ⟨Nat.le_of_ble_eq_true rfl, Nat.le_of_ble_eq_true rfl⟩) (xPS hK trivial) rfl rfl hl.1 rfl (lv_room (Nat.le_of_ble_eq_true rfl)) dX6_canSelect_43 ⟨Nat.le_of_ble_eq_true rfl, Nat.le_of_ble_eq_true rfl⟩) ?_
    exact xr_zret hx hb hr hlocks (b := cnF q w9) (by rw [t_4, cnF_2]) dX6_canSelect_46
  by_cases t_5 : q = 3
  · refine lv_tableIn (tgt := 47) (off := 46) hx hb dX6_canSelect_1 (by rw [t_5]; decide) (by rw [t_5]; decide) (by rw [t_5]; decide) (by decide) ?_
    refine lv_iload_n hx hb dX6_canSelect_47 rfl (lv_at hl 1 rfl) ?_
    refine lv_if_lt (tgt := 61) hx hb dX6_canSelect_48 (by decide) (fun c_6 => ?_) (fun c_6 => ?_)
    · refine lv_iconst (v := 0) hx hb dX6_canSelect_61 (by decide) ?_
      exact xr_zret hx hb hr hlocks (b := cnF q w9) (by rw [t_5, cnF_3]; simp [okC_c, bI, c_6, Int32.not_le.mpr c_6]) dX6_canSelect_62
    · refine lv_iload_n hx hb dX6_canSelect_51 rfl (lv_at hl 1 rfl) ?_
      refine lv_bipush (v := 12) hx hb dX6_canSelect_52 (by decide) ?_
      refine lv_icmp_ge (tgt := 61) hx hb dX6_canSelect_54 (by decide) (fun c_7 => ?_) (fun c_7 => ?_)
      · refine lv_iconst (v := 0) hx hb dX6_canSelect_61 (by decide) ?_
        exact xr_zret hx hb hr hlocks (b := cnF q w9) (by rw [t_5, cnF_3]; simp [okC_c, bI, c_6, Int32.not_lt.mp c_6, c_7, Int32.not_lt.mpr c_7]) dX6_canSelect_62
      · refine lv_iconst (v := 1) hx hb dX6_canSelect_57 (by decide) ?_
        refine lv_goto (tgt := 62) hx hb dX6_canSelect_58 (by decide) ?_
        exact xr_zret hx hb hr hlocks (b := cnF q w9) (by rw [t_5, cnF_3]; simp [okC_c, bI, c_6, Int32.not_lt.mp c_6, c_7, Int32.not_le.mp c_7]) dX6_canSelect_62
  have it_1 := lv_neT t_1 (a := 0) (by decide)
  have it_3 := lv_neT t_3 (a := 1) (by decide)
  have it_4 := lv_neT t_4 (a := 2) (by decide)
  have it_5 := lv_neT t_5 (a := 3) (by decide)
  refine lv_tableOut (tgt := 63) hx hb dX6_canSelect_1 (by omega) (by decide) ?_
  refine lv_iconst (v := 0) hx hb dX6_canSelect_63 (by decide) ?_
  exact xr_zret hx hb hr hlocks (b := cnF q w9) (by rw [cnF_n it_1 it_3 it_4 it_5]; rfl) dX6_canSelect_64
set_option maxHeartbeats 4000000 in
set_option maxRecDepth 100000 in
theorem c_X6_bit (l : Launch) (D : va_G) (cA : Nat → ClassId) (b : Nat) : Met l yX6_bit wsX6_bit (rmK 0 0 0) (xP D cA [.int (nI b)] (fun _ => True)) (xR (some (.int (bitI b)))) 0 0 (fun _ => False) := by
  refine Met.ofW (cc := cX6_bit) (maxL := 1) (ret := (some .int)) (by decide) rfl ?_
  intro p e s m args below meth c s₁ B hml hv
  obtain ⟨rfl, hK, hI⟩ := hv
  have hx := B.exec
  have hb := B.bytes
  have hr := B.returns
  have hts := atoms_spec (ws := wsX6_bit) B.pre
  have hown : s.vm.findClass RX6 = some m.cls := findClass_of_methodNamed B.named
  have hlocks := B.notSynchronized
  have hl := lv_entry ([.int (nI b)]) (n := 1) (Nat.le_of_ble_eq_true rfl)
  rw [lg_entry_eq]
  generalize (lg_sl ([.int (nI b)]) ++ List.replicate (1 - (lg_sl ([.int (nI b)])).length) Slot.unset).toArray = ls at hl ⊢
  have hl : lv_has ls 1 [(0, .int (nI b))] := hl
  refine lv_iconst (v := 1) hx hb dX6_bit_0 (by decide) ?_
  refine lv_iload_n hx hb dX6_bit_1 rfl (lv_at hl 0 rfl) ?_
  refine lv_ishl hx hb dX6_bit_2 ?_
  exact xr_iret hx hb hr hlocks rfl dX6_bit_3
set_option maxHeartbeats 4000000 in
set_option maxRecDepth 100000 in
theorem c_X4_lockOf (l : Launch) (D : va_G) (cA : Nat → ClassId) (v : Int32) : Met l yX4_lockOf wsX4_lockOf (rmK 0 0 0) (xP D cA [.int v] (fun _ => True)) (xR (some (.int (if v = -1 then 16 else v)))) 0 0 (fun _ => False) := by
  refine Met.ofW (cc := cX4_lockOf) (maxL := 1) (ret := (some .int)) (by decide) rfl ?_
  intro p e s m args below meth c s₁ B hml hv
  obtain ⟨rfl, hK, hI⟩ := hv
  have hx := B.exec
  have hb := B.bytes
  have hr := B.returns
  have hts := atoms_spec (ws := wsX4_lockOf) B.pre
  have hown : s.vm.findClass RX4 = some m.cls := findClass_of_methodNamed B.named
  have hlocks := B.notSynchronized
  have hl := lv_entry ([.int v]) (n := 1) (Nat.le_of_ble_eq_true rfl)
  rw [lg_entry_eq]
  generalize (lg_sl ([.int v]) ++ List.replicate (1 - (lg_sl ([.int v])).length) Slot.unset).toArray = ls at hl ⊢
  have hl : lv_has ls 1 [(0, .int v)] := hl
  refine lv_iload_n hx hb dX4_lockOf_0 rfl (lv_at hl 0 rfl) ?_
  refine lv_iconst (v := (-1)) hx hb dX4_lockOf_1 (by decide) ?_
  refine lv_icmp_ne (tgt := 10) hx hb dX4_lockOf_2 (by decide) (fun c_1 => ?_) (fun c_1 => ?_)
  · refine lv_iload_n hx hb dX4_lockOf_10 rfl (lv_at hl 0 rfl) ?_
    exact xr_iret hx hb hr hlocks (by first | (simp [if_true, c_1]; done) | (simp_all [if_true]; done) | (simp [if_true, c_1]; omega)) dX4_lockOf_11
  · refine lv_bipush (v := 16) hx hb dX4_lockOf_5 (by decide) ?_
    refine lv_goto (tgt := 11) hx hb dX4_lockOf_7 (by decide) ?_
    exact xr_iret hx hb hr hlocks (by first | (simp [if_true, c_1]; done) | (simp_all [if_true]; done) | (simp [if_true, c_1]; omega)) dX4_lockOf_11
set_option maxHeartbeats 4000000 in
set_option maxRecDepth 100000 in
theorem c_X4_bucket (l : Launch) (D : va_G) (cA : Nat → ClassId) (a num : Nat) (sel whi pre9 : Int32) (ho ro ch : Nat) (c9 b9 : Nat) (hc : c9 < 12) (ha8 : num < 8) (hb9 : b9 < 16) : Met l yX4_bucket wsX4_bucket (rmK 0 0 0) (xP D cA [.ref a, .int (nI c9), .int (nI b9)] (fun H => xO D a 5 (lyV (nI num) sel whi pre9 ho ro ch) H)) (xR (some (.int (nI (bk c9 num b9))))) 0 0 (fun _ => False) := by
  refine Met.ofW (cc := cX4_bucket) (maxL := 3) (ret := (some .int)) (by decide) rfl ?_
  intro p e s m args below meth c s₁ B hml hv
  obtain ⟨rfl, hK, hI⟩ := hv
  have hx := B.exec
  have hb := B.bytes
  have hr := B.returns
  have hts := atoms_spec (ws := wsX4_bucket) B.pre
  have hown : s.vm.findClass RX4 = some m.cls := findClass_of_methodNamed B.named
  have hlocks := B.notSynchronized
  have hl := lv_entry ([.ref a, .int (nI c9), .int (nI b9)]) (n := 3) (Nat.le_of_ble_eq_true rfl)
  rw [lg_entry_eq]
  generalize (lg_sl ([.ref a, .int (nI c9), .int (nI b9)]) ++ List.replicate (3 - (lg_sl ([.ref a, .int (nI c9), .int (nI b9)])).length) Slot.unset).toArray = ls at hl ⊢
  have hl : lv_has ls 3 [(0, .ref a), (1, .int (nI c9)), (2, .int (nI b9))] := hl
  have h_X4 : ∀ w ∈ wsX40, w ∈ wsX4_bucket := fun _ h => List.mem_cons_of_mem _ (List.mem_append_right _ h)
  have hO := hI
  refine lv_bipush (v := 31) hx hb dX4_bucket_0 (by decide) ?_
  refine lv_iload_n hx hb dX4_bucket_2 rfl (lv_at hl 1 rfl) ?_
  refine lv_imul hx hb dX4_bucket_3 ?_
  refine lv_bipush (v := 17) hx hb dX4_bucket_4 (by decide) ?_
  refine lv_iload_n hx hb dX4_bucket_6 rfl (lv_at hl 2 rfl) ?_
  refine lv_imul hx hb dX4_bucket_7 ?_
  refine lv_iadd hx hb dX4_bucket_8 ?_
  refine lv_bipush (v := 7) hx hb dX4_bucket_9 (by decide) ?_
  refine lv_aload_n hx hb dX4_bucket_11 rfl (lv_at hl 0 rfl) ?_
  refine x_get (v := .int (nI num)) hx hb hts h_X4 hown hK hO rfl 0 (by decide) (hts (.fieldLink RX4 24 "ConfigBeacon$Layer" "number" "I") (by decide +kernel)) (fun _ h => h) rfl dX4_bucket_12 ?_
  refine lv_imul hx hb dX4_bucket_15 ?_
  refine lv_iadd hx hb dX4_bucket_16 ?_
  refine lv_bipush (v := 100) hx hb dX4_bucket_17 (by decide) ?_
  refine lv_irem hx hb dX4_bucket_19 (by decide) ?_
  exact xr_iret hx hb hr hlocks (bk_eq2 hc ha8 hb9) dX4_bucket_20
set_option maxHeartbeats 4000000 in
set_option maxRecDepth 100000 in
theorem c_X4_selects (l : Launch) (D : va_G) (cA : Nat → ClassId) (a num : Nat) (sel whi pre9 : Int32) (ho ro ch : Nat) (k9 : Int32) (cl9 : Nat) (g9 r9 : Int32) (hsel : sel = 0 ∨ sel = 1 ∨ sel = 2 ∨ sel = 3) : Met l yX4_selects wsX4_selects (rmK 0 0 0) (xP D cA [.ref a, .int k9, .ref cl9] (fun H => xO D a 5 (lyV (nI num) sel whi pre9 ho ro ch) H ∧ xO D cl9 1 [.int g9, .int r9] H)) (xR (some (.int (bI (slF sel whi g9 r9 k9))))) 0 0 (fun _ => False) := by
  refine Met.ofW (cc := cX4_selects) (maxL := 3) (ret := (some .boolean)) (by decide) rfl ?_
  intro p e s m args below meth c s₁ B hml hv
  obtain ⟨rfl, hK, hI⟩ := hv
  have hx := B.exec
  have hb := B.bytes
  have hr := B.returns
  have hts := atoms_spec (ws := wsX4_selects) B.pre
  have hown : s.vm.findClass RX4 = some m.cls := findClass_of_methodNamed B.named
  have hlocks := B.notSynchronized
  have hl := lv_entry ([.ref a, .int k9, .ref cl9]) (n := 3) (Nat.le_of_ble_eq_true rfl)
  rw [lg_entry_eq]
  generalize (lg_sl ([.ref a, .int k9, .ref cl9]) ++ List.replicate (3 - (lg_sl ([.ref a, .int k9, .ref cl9])).length) Slot.unset).toArray = ls at hl ⊢
  have hl : lv_has ls 3 [(0, .ref a), (1, .int k9), (2, .ref cl9)] := hl
  have h_X0 : ∀ w ∈ wsX00, w ∈ wsX4_selects := fun _ h => List.mem_cons_of_mem _ (List.mem_append_right _ h)
  have h_X4 : ∀ w ∈ wsX40, w ∈ wsX4_selects := fun _ h => List.mem_cons_of_mem _ (List.mem_append_left _ (List.mem_append_right _ h))
  obtain ⟨hO, hC⟩ := hI
  refine lv_aload_n hx hb dX4_selects_0 rfl (lv_at hl 0 rfl) ?_
  refine x_get (v := .int sel) hx hb hts h_X4 hown hK hO rfl 1 (by decide) (hts (.fieldLink RX4 31 "ConfigBeacon$Layer" "selector" "I") (by decide +kernel)) (fun _ h => h) rfl dX4_selects_1 ?_
  by_cases t_1 : sel = 1
  · refine lv_tableIn (tgt := 32) (off := 28) hx hb dX4_selects_4 (by rw [t_1]; decide) (by rw [t_1]; decide) (by rw [t_1]; decide) (by decide) ?_
    refine lv_aload_n hx hb dX4_selects_32 rfl (lv_at hl 2 rfl) ?_
    refine x_getN (v := .int g9) hx hb hts h_X0 hown hK hC rfl 0 (by decide) (va_Nw.use rfl (hK.2.2.1 ("ConfigBeacon$Layer", 37, "ConfigBeacon$Client", "region", "I") (by decide))) (fun _ h => h) rfl dX4_selects_33 ?_
    refine lv_aload_n hx hb dX4_selects_36 rfl (lv_at hl 0 rfl) ?_
    refine x_get (v := .int whi) hx hb hts h_X4 hown hK hO rfl 2 (by decide) (hts (.fieldLink RX4 34 "ConfigBeacon$Layer" "which" "I") (by decide +kernel)) (fun _ h => h) rfl dX4_selects_37 ?_
    refine lv_icmp_ne (tgt := 47) hx hb dX4_selects_40 (by decide) (fun c_2 => ?_) (fun c_2 => ?_)
    · refine lv_iconst (v := 0) hx hb dX4_selects_47 (by decide) ?_
      exact xr_zret hx hb hr hlocks (b := slF sel whi g9 r9 k9) (by rw [slF, t_1]; simp [bI, c_2]) dX4_selects_48
    · refine lv_iconst (v := 1) hx hb dX4_selects_43 (by decide) ?_
      refine lv_goto (tgt := 48) hx hb dX4_selects_44 (by decide) ?_
      exact xr_zret hx hb hr hlocks (b := slF sel whi g9 r9 k9) (by rw [slF, t_1]; simp [bI, c_2]) dX4_selects_48
  by_cases t_3 : sel = 2
  · refine lv_tableIn (tgt := 49) (off := 45) hx hb dX4_selects_4 (by rw [t_3]; decide) (by rw [t_3]; decide) (by rw [t_3]; decide) (by decide) ?_
    refine lv_aload_n hx hb dX4_selects_49 rfl (lv_at hl 2 rfl) ?_
    refine x_getN (v := .int r9) hx hb hts h_X0 hown hK hC rfl 1 (by decide) (va_Nw.use rfl (hK.2.2.1 ("ConfigBeacon$Layer", 42, "ConfigBeacon$Client", "group", "I") (by decide))) (fun _ h => h) rfl dX4_selects_50 ?_
    refine lv_aload_n hx hb dX4_selects_53 rfl (lv_at hl 0 rfl) ?_
    refine x_get (v := .int whi) hx hb hts h_X4 hown hK hO rfl 2 (by decide) (hts (.fieldLink RX4 34 "ConfigBeacon$Layer" "which" "I") (by decide +kernel)) (fun _ h => h) rfl dX4_selects_54 ?_
    refine lv_icmp_ne (tgt := 64) hx hb dX4_selects_57 (by decide) (fun c_4 => ?_) (fun c_4 => ?_)
    · refine lv_iconst (v := 0) hx hb dX4_selects_64 (by decide) ?_
      exact xr_zret hx hb hr hlocks (b := slF sel whi g9 r9 k9) (by rw [slF, t_3]; simp [bI, c_4]) dX4_selects_65
    · refine lv_iconst (v := 1) hx hb dX4_selects_60 (by decide) ?_
      refine lv_goto (tgt := 65) hx hb dX4_selects_61 (by decide) ?_
      exact xr_zret hx hb hr hlocks (b := slF sel whi g9 r9 k9) (by rw [slF, t_3]; simp [bI, c_4]) dX4_selects_65
  by_cases t_5 : sel = 3
  · refine lv_tableIn (tgt := 66) (off := 62) hx hb dX4_selects_4 (by rw [t_5]; decide) (by rw [t_5]; decide) (by rw [t_5]; decide) (by decide) ?_
    refine lv_iload_n hx hb dX4_selects_66 rfl (lv_at hl 1 rfl) ?_
    refine lv_aload_n hx hb dX4_selects_67 rfl (lv_at hl 0 rfl) ?_
    refine x_get (v := .int whi) hx hb hts h_X4 hown hK hO rfl 2 (by decide) (hts (.fieldLink RX4 34 "ConfigBeacon$Layer" "which" "I") (by decide +kernel)) (fun _ h => h) rfl dX4_selects_68 ?_
    refine lv_icmp_ne (tgt := 78) hx hb dX4_selects_71 (by decide) (fun c_6 => ?_) (fun c_6 => ?_)
    · refine lv_iconst (v := 0) hx hb dX4_selects_78 (by decide) ?_
      exact xr_zret hx hb hr hlocks (b := slF sel whi g9 r9 k9) (by rw [slF, t_5]; simp [bI, c_6]) dX4_selects_79
    · refine lv_iconst (v := 1) hx hb dX4_selects_74 (by decide) ?_
      refine lv_goto (tgt := 79) hx hb dX4_selects_75 (by decide) ?_
      exact xr_zret hx hb hr hlocks (b := slF sel whi g9 r9 k9) (by rw [slF, t_5]; simp [bI, c_6]) dX4_selects_79
  have it_1 := lv_neT t_1 (a := 1) (by decide)
  have it_3 := lv_neT t_3 (a := 2) (by decide)
  have it_5 := lv_neT t_5 (a := 3) (by decide)
  refine lv_tableOut (tgt := 80) hx hb dX4_selects_4 (by omega) (by decide) ?_
  refine lv_iconst (v := 1) hx hb dX4_selects_80 (by decide) ?_
  have e9 : sel = 0 := by
    rcases hsel with q | q | q | q
    · exact q
    · exact absurd q t_1
    · exact absurd q t_3
    · exact absurd q t_5
  exact xr_zret hx hb hr hlocks (b := slF sel whi g9 r9 k9) (by rw [slF, e9]; rfl) dX4_selects_81
set_option maxHeartbeats 4000000 in
set_option maxRecDepth 100000 in
theorem c_X4_isHeldByOther (l : Launch) (D : va_G) (cA : Nat → ClassId) (a num : Nat) (sel whi pre9 : Int32) (ho ro ch : Nat) (hf : Nat → Int32) (k : Nat) (hk : k < 17) (o : Int32) : Met l yX4_isHeldByOther wsX4_isHeldByOther (rmK 0 0 0) (xP D cA [.ref a, .int (nI k), .int o] (fun H => xO D a 5 (lyV (nI num) sel whi pre9 ho ro ch) H ∧ xI (cA 0) ho 17 hf H)) (xR (some (.int (bI (heF (hf k) o))))) 0 0 (fun _ => False) := by
  refine Met.ofW (cc := cX4_isHeldByOther) (maxL := 3) (ret := (some .boolean)) (by decide) rfl ?_
  intro p e s m args below meth c s₁ B hml hv
  obtain ⟨rfl, hK, hI⟩ := hv
  have hx := B.exec
  have hb := B.bytes
  have hr := B.returns
  have hts := atoms_spec (ws := wsX4_isHeldByOther) B.pre
  have hown : s.vm.findClass RX4 = some m.cls := findClass_of_methodNamed B.named
  have hlocks := B.notSynchronized
  have hl := lv_entry ([.ref a, .int (nI k), .int o]) (n := 3) (Nat.le_of_ble_eq_true rfl)
  rw [lg_entry_eq]
  generalize (lg_sl ([.ref a, .int (nI k), .int o]) ++ List.replicate (3 - (lg_sl ([.ref a, .int (nI k), .int o])).length) Slot.unset).toArray = ls at hl ⊢
  have hl : lv_has ls 3 [(0, .ref a), (1, .int (nI k)), (2, .int o)] := hl
  have h_X4 : ∀ w ∈ wsX40, w ∈ wsX4_isHeldByOther := fun _ h => List.mem_cons_of_mem _ (List.mem_append_right _ h)
  obtain ⟨hO, hI9⟩ := hI
  refine lv_aload_n hx hb dX4_isHeldByOther_0 rfl (lv_at hl 0 rfl) ?_
  refine x_get (v := .ref ho) hx hb hts h_X4 hown hK hO rfl 4 (by decide) (hts (.fieldLink RX4 9 "ConfigBeacon$Layer" "holders" "[I") (by decide +kernel)) (fun _ h => h) rfl dX4_isHeldByOther_1 ?_
  refine lv_iload_n hx hb dX4_isHeldByOther_4 rfl (lv_at hl 1 rfl) ?_
  refine x_iald hx hb hK hI9 k rfl (by omega) (by decide) dX4_isHeldByOther_5 ?_
  refine lv_if_eq (tgt := 23) hx hb dX4_isHeldByOther_6 (by decide) (fun c_1 => ?_) (fun c_1 => ?_)
  · refine lv_iconst (v := 0) hx hb dX4_isHeldByOther_23 (by decide) ?_
    exact xr_zret hx hb hr hlocks (by first | (simp [heF, bI, c_1]; done) | (simp_all [heF, bI]; done) | (simp [heF, bI, c_1]; omega)) dX4_isHeldByOther_24
  · refine lv_aload_n hx hb dX4_isHeldByOther_9 rfl (lv_at hl 0 rfl) ?_
    refine x_get (v := .ref ho) hx hb hts h_X4 hown hK hO rfl 4 (by decide) (hts (.fieldLink RX4 9 "ConfigBeacon$Layer" "holders" "[I") (by decide +kernel)) (fun _ h => h) rfl dX4_isHeldByOther_10 ?_
    refine lv_iload_n hx hb dX4_isHeldByOther_13 rfl (lv_at hl 1 rfl) ?_
    refine x_iald hx hb hK hI9 k rfl (by omega) (by decide) dX4_isHeldByOther_14 ?_
    refine lv_iload_n hx hb dX4_isHeldByOther_15 rfl (lv_at hl 2 rfl) ?_
    refine lv_icmp_eq (tgt := 23) hx hb dX4_isHeldByOther_16 (by decide) (fun c_2 => ?_) (fun c_2 => ?_)
    · refine lv_iconst (v := 0) hx hb dX4_isHeldByOther_23 (by decide) ?_
      exact xr_zret hx hb hr hlocks (by first | (simp [heF, bI, c_1, c_2]; done) | (simp_all [heF, bI]; done) | (simp [heF, bI, c_1, c_2]; omega)) dX4_isHeldByOther_24
    · refine lv_iconst (v := 1) hx hb dX4_isHeldByOther_19 (by decide) ?_
      refine lv_goto (tgt := 24) hx hb dX4_isHeldByOther_20 (by decide) ?_
      exact xr_zret hx hb hr hlocks (by first | (simp [heF, bI, c_1, c_2]; done) | (simp_all [heF, bI]; done) | (simp [heF, bI, c_1, c_2]; omega)) dX4_isHeldByOther_24
set_option maxHeartbeats 4000000 in
set_option maxRecDepth 100000 in
theorem c_X4_isHeldAgainst (l : Launch) (D : va_G) (cA : Nat → ClassId) (a num : Nat) (sel whi pre9 : Int32) (ho ro ch : Nat) (hf : Nat → Int32) (k : Nat) (hk : k < 16) (o : Int32) : Met l yX4_isHeldAgainst wsX4_isHeldAgainst (rmK 1 0 0) (xP D cA [.ref a, .int (nI k), .int o] (fun H => xO D a 5 (lyV (nI num) sel whi pre9 ho ro ch) H ∧ xI (cA 0) ho 17 hf H)) (xR (some (.int (bI (heF (hf 16) o || heF (hf k) o))))) 0 0 (fun _ => False) := by
  refine Met.ofW (cc := cX4_isHeldAgainst) (maxL := 3) (ret := (some .boolean)) (by decide) rfl ?_
  intro p e s m args below meth c s₁ B hml hv
  obtain ⟨rfl, hK, hI⟩ := hv
  have hx := B.exec
  have hb := B.bytes
  have hr := B.returns
  have hts := atoms_spec (ws := wsX4_isHeldAgainst) B.pre
  have hown : s.vm.findClass RX4 = some m.cls := findClass_of_methodNamed B.named
  have hlocks := B.notSynchronized
  have hl := lv_entry ([.ref a, .int (nI k), .int o]) (n := 3) (Nat.le_of_ble_eq_true rfl)
  rw [lg_entry_eq]
  generalize (lg_sl ([.ref a, .int (nI k), .int o]) ++ List.replicate (3 - (lg_sl ([.ref a, .int (nI k), .int o])).length) Slot.unset).toArray = ls at hl ⊢
  have hl : lv_has ls 3 [(0, .ref a), (1, .int (nI k)), (2, .int o)] := hl
  have h_X4 : ∀ w ∈ wsX40, w ∈ wsX4_isHeldAgainst := fun _ h => List.mem_cons_of_mem _ (List.mem_append_right _ h)
  obtain ⟨hO, hI9⟩ := hI
  refine lv_aload_n hx hb dX4_isHeldAgainst_0 rfl (lv_at hl 0 rfl) ?_
  refine lv_bipush (v := 16) hx hb dX4_isHeldAgainst_1 (by decide) ?_
  refine lv_iload_n hx hb dX4_isHeldAgainst_3 rfl (lv_at hl 2 rfl) ?_
  refine xr_call (va_runV (As := [.int 16, .int o]) (rest := []) ⟨hx, hb, hml, hown, hts⟩ (c_X4_isHeldByOther l D cA a num sel whi pre9 ho ro ch hf 16 (by omega) o) (cwV 2 hts gX4_isHeldAgainst_X4_isHeldByOther rfl rfl rfl (by decide +kernel) ⟨Nat.le_of_ble_eq_true rfl, Nat.le_of_ble_eq_true rfl⟩) (xPV hK hO rfl ⟨hO, hI9⟩) rfl rfl hl.1 rfl (lv_room (Nat.le_of_ble_eq_true rfl)) dX4_isHeldAgainst_4 ⟨Nat.le_of_ble_eq_true rfl, Nat.le_of_ble_eq_true rfl⟩) ?_
  refine xb_ne (tgt := 19) hx hb dX4_isHeldAgainst_7 (by decide) (fun c_1 => ?_) (fun c_1 => ?_)
  · refine lv_iconst (v := 1) hx hb dX4_isHeldAgainst_19 (by decide) ?_
    refine lv_goto (tgt := 24) hx hb dX4_isHeldAgainst_20 (by decide) ?_
    exact xr_zret hx hb hr hlocks (by first | (simp [bI, c_1]; done) | (simp_all [bI]; done) | (simp [bI, c_1]; omega)) dX4_isHeldAgainst_24
  · refine lv_aload_n hx hb dX4_isHeldAgainst_10 rfl (lv_at hl 0 rfl) ?_
    refine lv_iload_n hx hb dX4_isHeldAgainst_11 rfl (lv_at hl 1 rfl) ?_
    refine lv_iload_n hx hb dX4_isHeldAgainst_12 rfl (lv_at hl 2 rfl) ?_
    refine xr_call (va_runV (As := [.int (nI k), .int o]) (rest := []) ⟨hx, hb, hml, hown, hts⟩ (c_X4_isHeldByOther l D cA a num sel whi pre9 ho ro ch hf k (by omega) o) (cwV 2 hts gX4_isHeldAgainst_X4_isHeldByOther rfl rfl rfl (by decide +kernel) ⟨Nat.le_of_ble_eq_true rfl, Nat.le_of_ble_eq_true rfl⟩) (xPV hK hO rfl ⟨hO, hI9⟩) rfl rfl hl.1 rfl (lv_room (Nat.le_of_ble_eq_true rfl)) dX4_isHeldAgainst_13 ⟨Nat.le_of_ble_eq_true rfl, Nat.le_of_ble_eq_true rfl⟩) ?_
    refine xb_eq (tgt := 23) hx hb dX4_isHeldAgainst_16 (by decide) (fun c_2 => ?_) (fun c_2 => ?_)
    · refine lv_iconst (v := 0) hx hb dX4_isHeldAgainst_23 (by decide) ?_
      exact xr_zret hx hb hr hlocks (by first | (simp [bI, c_1, c_2]; done) | (simp_all [bI]; done) | (simp [bI, c_1, c_2]; omega)) dX4_isHeldAgainst_24
    · refine lv_iconst (v := 1) hx hb dX4_isHeldAgainst_19 (by decide) ?_
      refine lv_goto (tgt := 24) hx hb dX4_isHeldAgainst_20 (by decide) ?_
      exact xr_zret hx hb hr hlocks (by first | (simp [bI, c_1, c_2]; done) | (simp_all [bI]; done) | (simp [bI, c_1, c_2]; omega)) dX4_isHeldAgainst_24
set_option maxHeartbeats 4000000 in
set_option maxRecDepth 100000 in
theorem c_X4_countHeld (l : Launch) (D : va_G) (cA : Nat → ClassId) (a num : Nat) (sel whi pre9 : Int32) (ho ro ch : Nat) (hf : Nat → Int32) (o : Int32) : Met l yX4_countHeld wsX4_countHeld (rmK 0 0 0) (xP D cA [.ref a, .int o] (fun H => xO D a 5 (lyV (nI num) sel whi pre9 ho ro ch) H ∧ xI (cA 0) ho 17 hf H)) (xR (some (.int (nI (cntF (fun k => decide (hf k = o)) 17))))) 0 0 (fun _ => False) := by
  refine Met.ofW (cc := cX4_countHeld) (maxL := 4) (ret := (some .int)) (by decide) rfl ?_
  intro p e s m args below meth c s₁ B hml hv
  obtain ⟨rfl, hK, hI⟩ := hv
  have hx := B.exec
  have hb := B.bytes
  have hr := B.returns
  have hts := atoms_spec (ws := wsX4_countHeld) B.pre
  have hown : s.vm.findClass RX4 = some m.cls := findClass_of_methodNamed B.named
  have hlocks := B.notSynchronized
  have hl := lv_entry ([.ref a, .int o]) (n := 4) (Nat.le_of_ble_eq_true rfl)
  rw [lg_entry_eq]
  generalize (lg_sl ([.ref a, .int o]) ++ List.replicate (4 - (lg_sl ([.ref a, .int o])).length) Slot.unset).toArray = ls at hl ⊢
  have hl : lv_has ls 4 [(0, .ref a), (1, .int o)] := hl
  have h_X4 : ∀ w ∈ wsX40, w ∈ wsX4_countHeld := fun _ h => List.mem_cons_of_mem _ (List.mem_append_right _ h)
  obtain ⟨hO, hI9⟩ := hI
  refine lv_iconst (v := 0) hx hb dX4_countHeld_0 (by decide) ?_
  refine lv_istore_n (lv' := [(2, .int 0), (0, .ref a), (1, .int o)]) hx hb dX4_countHeld_1 rfl hl (by decide) rfl (fun ls hl => ?_)
  refine lv_iconst (v := 0) hx hb dX4_countHeld_2 (by decide) ?_
  refine lv_istore_n (lv' := [(3, .int 0), (2, .int 0), (0, .ref a), (1, .int o)]) hx hb dX4_countHeld_3 rfl hl (by decide) rfl (fun ls hl => ?_)
  refine w_loopR (fun (i : Nat) ls => i ≤ 17 ∧ lv_has ls 4 [(0, .ref a), (1, .int o), (2, .int (nI (cntF (fun k => decide (hf k = o)) i))), (3, .int (nI i))]) (fun (i : Nat) => 17 - i) ?_ 0 ⟨Nat.zero_le _, lv_sub hl [2, 3, 1, 0] rfl⟩
  intro i ls h9 ih
  obtain ⟨hi, hl⟩ := h9
  refine lv_iload_n hx hb dX4_countHeld_4 rfl (lv_at hl 3 rfl) ?_
  refine lv_bipush (v := 16) hx hb dX4_countHeld_5 (by decide) ?_
  refine lv_icmp_gt (tgt := 29) hx hb dX4_countHeld_7 (by decide) (fun c_1 => ?_) (fun c_1 => ?_)
  · have n_1 : 16 < i := (nI_ltI (a := 16) (b := i) (by omega) (by omega)).mp c_1
    refine lv_iload_n hx hb dX4_countHeld_29 rfl (lv_at hl 2 rfl) ?_
    exact xr_iret hx hb hr hlocks (by rw [show 17 = i by omega]) dX4_countHeld_30
  · have n_1 : i ≤ 16 := Nat.not_lt.mp (fun q => c_1 ((nI_ltI (a := 16) (b := i) (by omega) (by omega)).mpr q))
    refine lv_aload_n hx hb dX4_countHeld_10 rfl (lv_at hl 0 rfl) ?_
    refine x_get (v := .ref ho) hx hb hts h_X4 hown hK hO rfl 4 (by decide) (hts (.fieldLink RX4 9 "ConfigBeacon$Layer" "holders" "[I") (by decide +kernel)) (fun _ h => h) rfl dX4_countHeld_11 ?_
    refine lv_iload_n hx hb dX4_countHeld_14 rfl (lv_at hl 3 rfl) ?_
    refine x_iald hx hb hK hI9 i rfl (by omega) (by decide) dX4_countHeld_15 ?_
    refine lv_iload_n hx hb dX4_countHeld_16 rfl (lv_at hl 1 rfl) ?_
    refine lv_icmp_ne (tgt := 23) hx hb dX4_countHeld_17 (by decide) (fun c_2 => ?_) (fun c_2 => ?_)
    · have ec9 : ((nI (cntF (fun k => decide (hf k = o)) i)) : Int32) = (nI (cntF (fun k => decide (hf k = o)) (i + 1))) := by rw [cntF_f (by simp [c_2])]
      rw [ec9] at hl
      refine lv_iinc (v := (nI (i + 1))) (lv' := [(3, .int (nI (i + 1))), (0, .ref a), (1, .int o), (2, .int (nI (cntF (fun k => decide (hf k = o)) (i + 1))))]) hx hb dX4_countHeld_23 hl (k := 3) rfl (ni_inc i) (by decide) rfl (fun ls hl => ?_)
      refine lv_goto (tgt := 4) hx hb dX4_countHeld_26 (by decide) ?_
      exact ih (i + 1) _ ⟨(by omega), lv_sub hl [1, 2, 3, 0] rfl⟩ (by omega)
    · refine lv_iinc (v := (nI ((cntF (fun k => decide (hf k = o)) i) + 1))) (lv' := [(2, .int (nI ((cntF (fun k => decide (hf k = o)) i) + 1))), (0, .ref a), (1, .int o), (3, .int (nI i))]) hx hb dX4_countHeld_20 hl (k := 2) rfl (ni_inc (cntF (fun k => decide (hf k = o)) i)) (by decide) rfl (fun ls hl => ?_)
      have ec9 : ((nI ((cntF (fun k => decide (hf k = o)) i) + 1)) : Int32) = (nI (cntF (fun k => decide (hf k = o)) (i + 1))) := by rw [cntF_t (by simp [c_2])]
      rw [ec9] at hl
      refine lv_iinc (v := (nI (i + 1))) (lv' := [(3, .int (nI (i + 1))), (2, .int (nI (cntF (fun k => decide (hf k = o)) (i + 1)))), (0, .ref a), (1, .int o)]) hx hb dX4_countHeld_23 hl (k := 3) rfl (ni_inc i) (by decide) rfl (fun ls hl => ?_)
      refine lv_goto (tgt := 4) hx hb dX4_countHeld_26 (by decide) ?_
      exact ih (i + 1) _ ⟨(by omega), lv_sub hl [2, 3, 1, 0] rfl⟩ (by omega)
