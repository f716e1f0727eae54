set_option maxHeartbeats 4000000 in
set_option maxRecDepth 100000 in
theorem c_X6_isClient (l : Launch) (D : va_G) (cA : Nat → ClassId) (lab : Nat → Nat) (nm : Nat → Nat → Nat) (rf : Nat → Nat → Option Nat) (f : Nat → Nat → Int32) (nC nL nV : Nat) (hi : CRi f nC nL nV) (v : Int32) : Met l yX6_isClient wsX6_isClient (rmK 1 0 0) (xP D cA [.ref (nm 0 0), .int v] (CRv D cA lab nm rf f nC nL nV)) (xR (some (.int (bI (okN nC v))))) 0 0 (fun _ => False) := by
  refine Met.ofW (cc := cX6_isClient) (maxL := 2) (ret := (some .boolean)) (by decide) rfl ?_
  intro p e s m args below meth c s₁ B hml hv
  obtain ⟨rfl, hK, hI⟩ := hv
  have hx := B.exec
  have hb := B.bytes
  have hr := B.returns
  have hts := atoms_spec (ws := wsX6_isClient) B.pre
  have hown : s.vm.findClass RX6 = some m.cls := findClass_of_methodNamed B.named
  have hlocks := B.notSynchronized
  have hl := lv_entry ([.ref (nm 0 0), .int v]) (n := 2) (Nat.le_of_ble_eq_true rfl)
  rw [lg_entry_eq]
  generalize (lg_sl ([.ref (nm 0 0), .int v]) ++ List.replicate (2 - (lg_sl ([.ref (nm 0 0), .int v])).length) Slot.unset).toArray = ls at hl ⊢
  have hl : lv_has ls 2 [(0, .ref (nm 0 0)), (1, .int v)] := hl
  have h_X6 : ∀ w ∈ wsX60, w ∈ wsX6_isClient := fun _ h => List.mem_cons_of_mem _ (List.mem_append_left _ (List.mem_append_right _ h))
  have h_Jx4a65c : ∀ w ∈ wsJx4a65c0, w ∈ wsX6_isClient := fun _ h => List.mem_cons_of_mem _ (List.mem_append_right _ h)
  have hV := hI
  obtain ⟨hT, ⟨mcC, dC, capC, fC, hOC, hQC, hnC, hcC, hfC, -⟩, ⟨mcL, dL, capL, fL, hOL, hQL, hnL, hcL, hfL, -⟩, ⟨mcV, dV, capV, fV, hOV, hQV, hnV, hcV, hfV, -⟩, hC, hL, hHo, hRo, hCh, hRl, hEn⟩ := hI
  obtain ⟨b1, b2, b3, iSel, iGd, iCur, iZero, iLk, iLkA, iLkB⟩ := hi
  refine lv_iload_n hx hb dX6_isClient_0 rfl (lv_at hl 1 rfl) ?_
  refine lv_if_lt (tgt := 19) hx hb dX6_isClient_1 (by decide) (fun c_1 => ?_) (fun c_1 => ?_)
  · refine lv_iconst (v := 0) hx hb dX6_isClient_19 (by decide) ?_
    exact xr_zret hx hb hr hlocks (by first | (simp [okN, bI, c_1, Int32.not_le.mpr c_1]; done) | (simp_all [okN, bI]; done) | (simp [okN, bI, c_1, Int32.not_le.mpr c_1]; omega)) dX6_isClient_20
  · refine lv_iload_n hx hb dX6_isClient_4 rfl (lv_at hl 1 rfl) ?_
    refine lv_aload_n hx hb dX6_isClient_5 rfl (lv_at hl 0 rfl) ?_
    refine x_get (v := .ref (nm 1 0)) hx hb hts h_X6 hown hK hT rfl 0 (by decide) (hts (.fieldLink RX6 10 "ConfigBeacon" "allClients" "Ljava/util/ArrayList;") (by decide +kernel)) (fun _ h => h) rfl dX6_isClient_6 ?_
    refine xr_call (va_runV (As := []) (rest := [.int v]) ⟨hx, hb, hml, hown, hts⟩ (c_Jx4a65c_size_8abf5 l D cA (nm 1 0) mcC dC nC) (cwV 0 hts gX6_isClient_Jx4a65c_size_8abf5 rfl rfl rfl (by decide +kernel) ⟨Nat.le_of_ble_eq_true rfl, Nat.le_of_ble_eq_true rfl⟩) (xPV hK hOC rfl hOC) rfl rfl hl.1 rfl (lv_room (Nat.le_of_ble_eq_true rfl)) dX6_isClient_9 ⟨Nat.le_of_ble_eq_true rfl, Nat.le_of_ble_eq_true rfl⟩) ?_
    refine lv_icmp_ge (tgt := 19) hx hb dX6_isClient_12 (by decide) (fun c_2 => ?_) (fun c_2 => ?_)
    · refine lv_iconst (v := 0) hx hb dX6_isClient_19 (by decide) ?_
      exact xr_zret hx hb hr hlocks (by first | (simp [okN, bI, c_1, Int32.not_lt.mp c_1, c_2, Int32.not_lt.mpr c_2]; done) | (simp_all [okN, bI]; done) | (simp [okN, bI, c_1, Int32.not_lt.mp c_1, c_2, Int32.not_lt.mpr c_2]; omega)) dX6_isClient_20
    · refine lv_iconst (v := 1) hx hb dX6_isClient_15 (by decide) ?_
      refine lv_goto (tgt := 20) hx hb dX6_isClient_16 (by decide) ?_
      exact xr_zret hx hb hr hlocks (by first | (simp [okN, bI, c_1, Int32.not_lt.mp c_1, c_2, Int32.not_le.mp c_2]; done) | (simp_all [okN, bI]; done) | (simp [okN, bI, c_1, Int32.not_lt.mp c_1, c_2, Int32.not_le.mp c_2]; omega)) dX6_isClient_20
set_option maxHeartbeats 4000000 in
set_option maxRecDepth 100000 in
theorem c_X6_isLayer (l : Launch) (D : va_G) (cA : Nat → ClassId) (lab : Nat → Nat) (nm : Nat → Nat → Nat) (rf : Nat → Nat → Option Nat) (f : Nat → Nat → Int32) (nC nL nV : Nat) (hi : CRi f nC nL nV) (v : Int32) : Met l yX6_isLayer wsX6_isLayer (rmK 1 0 0) (xP D cA [.ref (nm 0 0), .int v] (CRv D cA lab nm rf f nC nL nV)) (xR (some (.int (bI (okN nL v))))) 0 0 (fun _ => False) := by
  refine Met.ofW (cc := cX6_isLayer) (maxL := 2) (ret := (some .boolean)) (by decide) rfl ?_
  intro p e s m args below meth c s₁ B hml hv
  obtain ⟨rfl, hK, hI⟩ := hv
  have hx := B.exec
  have hb := B.bytes
  have hr := B.returns
  have hts := atoms_spec (ws := wsX6_isLayer) B.pre
  have hown : s.vm.findClass RX6 = some m.cls := findClass_of_methodNamed B.named
  have hlocks := B.notSynchronized
  have hl := lv_entry ([.ref (nm 0 0), .int v]) (n := 2) (Nat.le_of_ble_eq_true rfl)
  rw [lg_entry_eq]
  generalize (lg_sl ([.ref (nm 0 0), .int v]) ++ List.replicate (2 - (lg_sl ([.ref (nm 0 0), .int v])).length) Slot.unset).toArray = ls at hl ⊢
  have hl : lv_has ls 2 [(0, .ref (nm 0 0)), (1, .int v)] := hl
  have h_X6 : ∀ w ∈ wsX60, w ∈ wsX6_isLayer := fun _ h => List.mem_cons_of_mem _ (List.mem_append_left _ (List.mem_append_right _ h))
  have h_Jx4a65c : ∀ w ∈ wsJx4a65c0, w ∈ wsX6_isLayer := fun _ h => List.mem_cons_of_mem _ (List.mem_append_right _ h)
  have hV := hI
  obtain ⟨hT, ⟨mcC, dC, capC, fC, hOC, hQC, hnC, hcC, hfC, -⟩, ⟨mcL, dL, capL, fL, hOL, hQL, hnL, hcL, hfL, -⟩, ⟨mcV, dV, capV, fV, hOV, hQV, hnV, hcV, hfV, -⟩, hC, hL, hHo, hRo, hCh, hRl, hEn⟩ := hI
  obtain ⟨b1, b2, b3, iSel, iGd, iCur, iZero, iLk, iLkA, iLkB⟩ := hi
  refine lv_iload_n hx hb dX6_isLayer_0 rfl (lv_at hl 1 rfl) ?_
  refine lv_if_lt (tgt := 19) hx hb dX6_isLayer_1 (by decide) (fun c_1 => ?_) (fun c_1 => ?_)
  · refine lv_iconst (v := 0) hx hb dX6_isLayer_19 (by decide) ?_
    exact xr_zret hx hb hr hlocks (by first | (simp [okN, bI, c_1, Int32.not_le.mpr c_1]; done) | (simp_all [okN, bI]; done) | (simp [okN, bI, c_1, Int32.not_le.mpr c_1]; omega)) dX6_isLayer_20
  · refine lv_iload_n hx hb dX6_isLayer_4 rfl (lv_at hl 1 rfl) ?_
    refine lv_aload_n hx hb dX6_isLayer_5 rfl (lv_at hl 0 rfl) ?_
    refine x_get (v := .ref (nm 1 1)) hx hb hts h_X6 hown hK hT rfl 1 (by decide) (hts (.fieldLink RX6 16 "ConfigBeacon" "allLayers" "Ljava/util/ArrayList;") (by decide +kernel)) (fun _ h => h) rfl dX6_isLayer_6 ?_
    refine xr_call (va_runV (As := []) (rest := [.int v]) ⟨hx, hb, hml, hown, hts⟩ (c_Jx4a65c_size_8abf5 l D cA (nm 1 1) mcL dL nL) (cwV 0 hts gX6_isLayer_Jx4a65c_size_8abf5 rfl rfl rfl (by decide +kernel) ⟨Nat.le_of_ble_eq_true rfl, Nat.le_of_ble_eq_true rfl⟩) (xPV hK hOL rfl hOL) rfl rfl hl.1 rfl (lv_room (Nat.le_of_ble_eq_true rfl)) dX6_isLayer_9 ⟨Nat.le_of_ble_eq_true rfl, Nat.le_of_ble_eq_true rfl⟩) ?_
    refine lv_icmp_ge (tgt := 19) hx hb dX6_isLayer_12 (by decide) (fun c_2 => ?_) (fun c_2 => ?_)
    · refine lv_iconst (v := 0) hx hb dX6_isLayer_19 (by decide) ?_
      exact xr_zret hx hb hr hlocks (by first | (simp [okN, bI, c_1, Int32.not_lt.mp c_1, c_2, Int32.not_lt.mpr c_2]; done) | (simp_all [okN, bI]; done) | (simp [okN, bI, c_1, Int32.not_lt.mp c_1, c_2, Int32.not_lt.mpr c_2]; omega)) dX6_isLayer_20
    · refine lv_iconst (v := 1) hx hb dX6_isLayer_15 (by decide) ?_
      refine lv_goto (tgt := 20) hx hb dX6_isLayer_16 (by decide) ?_
      exact xr_zret hx hb hr hlocks (by first | (simp [okN, bI, c_1, Int32.not_lt.mp c_1, c_2, Int32.not_le.mp c_2]; done) | (simp_all [okN, bI]; done) | (simp [okN, bI, c_1, Int32.not_lt.mp c_1, c_2, Int32.not_le.mp c_2]; omega)) dX6_isLayer_20
set_option maxHeartbeats 4000000 in
set_option maxRecDepth 100000 in
theorem c_X6_isVersion (l : Launch) (D : va_G) (cA : Nat → ClassId) (lab : Nat → Nat) (nm : Nat → Nat → Nat) (rf : Nat → Nat → Option Nat) (f : Nat → Nat → Int32) (nC nL nV : Nat) (hi : CRi f nC nL nV) (v : Int32) : Met l yX6_isVersion wsX6_isVersion (rmK 1 0 0) (xP D cA [.ref (nm 0 0), .int v] (CRv D cA lab nm rf f nC nL nV)) (xR (some (.int (bI (okN (nV + 1) v))))) 0 0 (fun _ => False) := by
  refine Met.ofW (cc := cX6_isVersion) (maxL := 2) (ret := (some .boolean)) (by decide) rfl ?_
  intro p e s m args below meth c s₁ B hml hv
  obtain ⟨rfl, hK, hI⟩ := hv
  have hx := B.exec
  have hb := B.bytes
  have hr := B.returns
  have hts := atoms_spec (ws := wsX6_isVersion) B.pre
  have hown : s.vm.findClass RX6 = some m.cls := findClass_of_methodNamed B.named
  have hlocks := B.notSynchronized
  have hl := lv_entry ([.ref (nm 0 0), .int v]) (n := 2) (Nat.le_of_ble_eq_true rfl)
  rw [lg_entry_eq]
  generalize (lg_sl ([.ref (nm 0 0), .int v]) ++ List.replicate (2 - (lg_sl ([.ref (nm 0 0), .int v])).length) Slot.unset).toArray = ls at hl ⊢
  have hl : lv_has ls 2 [(0, .ref (nm 0 0)), (1, .int v)] := hl
  have h_X6 : ∀ w ∈ wsX60, w ∈ wsX6_isVersion := fun _ h => List.mem_cons_of_mem _ (List.mem_append_left _ (List.mem_append_right _ h))
  have h_Jx4a65c : ∀ w ∈ wsJx4a65c0, w ∈ wsX6_isVersion := fun _ h => List.mem_cons_of_mem _ (List.mem_append_right _ h)
  have hV := hI
  obtain ⟨hT, ⟨mcC, dC, capC, fC, hOC, hQC, hnC, hcC, hfC, -⟩, ⟨mcL, dL, capL, fL, hOL, hQL, hnL, hcL, hfL, -⟩, ⟨mcV, dV, capV, fV, hOV, hQV, hnV, hcV, hfV, -⟩, hC, hL, hHo, hRo, hCh, hRl, hEn⟩ := hI
  obtain ⟨b1, b2, b3, iSel, iGd, iCur, iZero, iLk, iLkA, iLkB⟩ := hi
  refine lv_iload_n hx hb dX6_isVersion_0 rfl (lv_at hl 1 rfl) ?_
  refine lv_if_lt (tgt := 19) hx hb dX6_isVersion_1 (by decide) (fun c_1 => ?_) (fun c_1 => ?_)
  · refine lv_iconst (v := 0) hx hb dX6_isVersion_19 (by decide) ?_
    exact xr_zret hx hb hr hlocks (by first | (simp [okN, bI, c_1, Int32.not_le.mpr c_1]; done) | (simp_all [okN, bI]; done) | (simp [okN, bI, c_1, Int32.not_le.mpr c_1]; omega)) dX6_isVersion_20
  · refine lv_iload_n hx hb dX6_isVersion_4 rfl (lv_at hl 1 rfl) ?_
    refine lv_aload_n hx hb dX6_isVersion_5 rfl (lv_at hl 0 rfl) ?_
    refine x_get (v := .ref (nm 1 2)) hx hb hts h_X6 hown hK hT rfl 2 (by decide) (hts (.fieldLink RX6 19 "ConfigBeacon" "versions" "Ljava/util/ArrayList;") (by decide +kernel)) (fun _ h => h) rfl dX6_isVersion_6 ?_
    refine xr_call (va_runV (As := []) (rest := [.int v]) ⟨hx, hb, hml, hown, hts⟩ (c_Jx4a65c_size_8abf5 l D cA (nm 1 2) mcV dV (nV + 1)) (cwV 0 hts gX6_isVersion_Jx4a65c_size_8abf5 rfl rfl rfl (by decide +kernel) ⟨Nat.le_of_ble_eq_true rfl, Nat.le_of_ble_eq_true rfl⟩) (xPV hK hOV rfl hOV) rfl rfl hl.1 rfl (lv_room (Nat.le_of_ble_eq_true rfl)) dX6_isVersion_9 ⟨Nat.le_of_ble_eq_true rfl, Nat.le_of_ble_eq_true rfl⟩) ?_
    refine lv_icmp_ge (tgt := 19) hx hb dX6_isVersion_12 (by decide) (fun c_2 => ?_) (fun c_2 => ?_)
    · refine lv_iconst (v := 0) hx hb dX6_isVersion_19 (by decide) ?_
      exact xr_zret hx hb hr hlocks (by first | (simp [okN, bI, c_1, Int32.not_lt.mp c_1, c_2, Int32.not_lt.mpr c_2]; done) | (simp_all [okN, bI]; done) | (simp [okN, bI, c_1, Int32.not_lt.mp c_1, c_2, Int32.not_lt.mpr c_2]; omega)) dX6_isVersion_20
    · refine lv_iconst (v := 1) hx hb dX6_isVersion_15 (by decide) ?_
      refine lv_goto (tgt := 20) hx hb dX6_isVersion_16 (by decide) ?_
      exact xr_zret hx hb hr hlocks (by first | (simp [okN, bI, c_1, Int32.not_lt.mp c_1, c_2, Int32.not_le.mp c_2]; done) | (simp_all [okN, bI]; done) | (simp [okN, bI, c_1, Int32.not_lt.mp c_1, c_2, Int32.not_le.mp c_2]; omega)) dX6_isVersion_20
set_option maxHeartbeats 4000000 in
set_option maxRecDepth 100000 in
theorem c_X6_isCell (l : Launch) (D : va_G) (cA : Nat → ClassId) (lab : Nat → Nat) (nm : Nat → Nat → Nat) (rf : Nat → Nat → Option Nat) (f : Nat → Nat → Int32) (nC nL nV : Nat) (hi : CRi f nC nL nV) (p1 p2 : Int32) : Met l yX6_isCell wsX6_isCell (rmK 2 0 0) (xP D cA [.ref (nm 0 0), .int p1, .int p2] (CRv D cA lab nm rf f nC nL nV)) (xR (some (.int (bI (okN nL p1 && okS p2))))) 0 0 (fun _ => False) := by
  refine Met.ofW (cc := cX6_isCell) (maxL := 3) (ret := (some .boolean)) (by decide) rfl ?_
  intro p e s m args below meth c s₁ B hml hv
  obtain ⟨rfl, hK, hI⟩ := hv
  have hx := B.exec
  have hb := B.bytes
  have hr := B.returns
  have hts := atoms_spec (ws := wsX6_isCell) B.pre
  have hown : s.vm.findClass RX6 = some m.cls := findClass_of_methodNamed B.named
  have hlocks := B.notSynchronized
  have hl := lv_entry ([.ref (nm 0 0), .int p1, .int p2]) (n := 3) (Nat.le_of_ble_eq_true rfl)
  rw [lg_entry_eq]
  generalize (lg_sl ([.ref (nm 0 0), .int p1, .int p2]) ++ List.replicate (3 - (lg_sl ([.ref (nm 0 0), .int p1, .int p2])).length) Slot.unset).toArray = ls at hl ⊢
  have hl : lv_has ls 3 [(0, .ref (nm 0 0)), (1, .int p1), (2, .int p2)] := hl
  have h_X6 : ∀ w ∈ wsX60, w ∈ wsX6_isCell := fun _ h => List.mem_cons_of_mem _ (List.mem_append_left _ (List.mem_append_right _ h))
  have h_Jx4a65c : ∀ w ∈ wsJx4a65c0, w ∈ wsX6_isCell := fun _ h => List.mem_cons_of_mem _ (List.mem_append_right _ h)
  have hV := hI
  obtain ⟨hT, ⟨mcC, dC, capC, fC, hOC, hQC, hnC, hcC, hfC, -⟩, ⟨mcL, dL, capL, fL, hOL, hQL, hnL, hcL, hfL, -⟩, ⟨mcV, dV, capV, fV, hOV, hQV, hnV, hcV, hfV, -⟩, hC, hL, hHo, hRo, hCh, hRl, hEn⟩ := hI
  obtain ⟨b1, b2, b3, iSel, iGd, iCur, iZero, iLk, iLkA, iLkB⟩ := hi
  refine lv_aload_n hx hb dX6_isCell_0 rfl (lv_at hl 0 rfl) ?_
  refine lv_iload_n hx hb dX6_isCell_1 rfl (lv_at hl 1 rfl) ?_
  refine xr_call (va_runV (As := [.int p1]) (rest := []) ⟨hx, hb, hml, hown, hts⟩ (c_X6_isLayer l D cA lab nm rf f nC nL nV (⟨b1, b2, b3, iSel, iGd, iCur, iZero, iLk, iLkA, iLkB⟩) p1) (cwV 1 hts gX6_isCell_X6_isLayer rfl rfl rfl (by decide +kernel) ⟨Nat.le_of_ble_eq_true rfl, Nat.le_of_ble_eq_true rfl⟩) (xPV hK hT rfl hV) rfl rfl hl.1 rfl (lv_room (Nat.le_of_ble_eq_true rfl)) dX6_isCell_2 ⟨Nat.le_of_ble_eq_true rfl, Nat.le_of_ble_eq_true rfl⟩) ?_
  refine xb_eq (tgt := 19) hx hb dX6_isCell_5 (by decide) (fun c_1 => ?_) (fun c_1 => ?_)
  · refine lv_iconst (v := 0) hx hb dX6_isCell_19 (by decide) ?_
    exact xr_zret hx hb hr hlocks (by first | (simp [bI, c_1]; done) | (simp_all [bI]; done) | (simp [bI, c_1]; omega)) dX6_isCell_20
  · refine lv_iload_n hx hb dX6_isCell_8 rfl (lv_at hl 2 rfl) ?_
    refine xr_call (va_runS (As := [.int p2]) (rest := []) ⟨hx, hb, hml, hown, hts⟩ (c_X6_isSetting l D cA p2) (va_cwS 1 hts gX6_isCell_X6_isSetting rfl rfl rfl (by decide +kernel) ⟨Nat.le_of_ble_eq_true rfl, Nat.le_of_ble_eq_true rfl⟩) (xPS hK trivial) rfl rfl hl.1 rfl (lv_room (Nat.le_of_ble_eq_true rfl)) dX6_isCell_9 ⟨Nat.le_of_ble_eq_true rfl, Nat.le_of_ble_eq_true rfl⟩) ?_
    refine xb_eq (tgt := 19) hx hb dX6_isCell_12 (by decide) (fun c_2 => ?_) (fun c_2 => ?_)
    · refine lv_iconst (v := 0) hx hb dX6_isCell_19 (by decide) ?_
      exact xr_zret hx hb hr hlocks (by first | (simp [bI, c_1, c_2]; done) | (simp_all [bI]; done) | (simp [bI, c_1, c_2]; omega)) dX6_isCell_20
    · refine lv_iconst (v := 1) hx hb dX6_isCell_15 (by decide) ?_
      refine lv_goto (tgt := 20) hx hb dX6_isCell_16 (by decide) ?_
      exact xr_zret hx hb hr hlocks (by first | (simp [bI, c_1, c_2]; done) | (simp_all [bI]; done) | (simp [bI, c_1, c_2]; omega)) dX6_isCell_20
set_option maxHeartbeats 4000000 in
set_option maxRecDepth 100000 in
theorem c_X6_goesAhead (l : Launch) (D : va_G) (cA : Nat → ClassId) (lab : Nat → Nat) (nm : Nat → Nat → Nat) (rf : Nat → Nat → Option Nat) (f : Nat → Nat → Int32) (nC nL nV : Nat) (hi : CRi f nC nL nV) (i j : Nat) (hi9 : i < nL) (hj9 : j < nL) : Met l yX6_goesAhead wsX6_goesAhead (rmK 3 0 0) (xP D cA [.ref (nm 0 0), .int (nI i), .int (nI j)] (CRv D cA lab nm rf f nC nL nV)) (xR (some (.int (bI (ahd (f 3) i j))))) 0 0 (fun _ => False) := by
  refine Met.ofW (cc := cX6_goesAhead) (maxL := 5) (ret := (some .boolean)) (by decide) rfl ?_
  intro p e s m args below meth c s₁ B hml hv
  obtain ⟨rfl, hK, hI⟩ := hv
  have hx := B.exec
  have hb := B.bytes
  have hr := B.returns
  have hts := atoms_spec (ws := wsX6_goesAhead) B.pre
  have hown : s.vm.findClass RX6 = some m.cls := findClass_of_methodNamed B.named
  have hlocks := B.notSynchronized
  have hl := lv_entry ([.ref (nm 0 0), .int (nI i), .int (nI j)]) (n := 5) (Nat.le_of_ble_eq_true rfl)
  rw [lg_entry_eq]
  generalize (lg_sl ([.ref (nm 0 0), .int (nI i), .int (nI j)]) ++ List.replicate (5 - (lg_sl ([.ref (nm 0 0), .int (nI i), .int (nI j)])).length) Slot.unset).toArray = ls at hl ⊢
  have hl : lv_has ls 5 [(0, .ref (nm 0 0)), (1, .int (nI i)), (2, .int (nI j))] := hl
  have h_X4 : ∀ w ∈ wsX40, w ∈ wsX6_goesAhead := fun _ h => List.mem_cons_of_mem _ (List.mem_append_left _ (List.mem_append_right _ h))
  have h_X6 : ∀ w ∈ wsX60, w ∈ wsX6_goesAhead := fun _ h => List.mem_cons_of_mem _ (List.mem_append_left _ (List.mem_append_left _ (List.mem_append_right _ h)))
  have h_Jx4a65c : ∀ w ∈ wsJx4a65c0, w ∈ wsX6_goesAhead := fun _ h => List.mem_cons_of_mem _ (List.mem_append_right _ h)
  have hV := hI
  obtain ⟨hT, ⟨mcC, dC, capC, fC, hOC, hQC, hnC, hcC, hfC, -⟩, ⟨mcL, dL, capL, fL, hOL, hQL, hnL, hcL, hfL, -⟩, ⟨mcV, dV, capV, fV, hOV, hQV, hnV, hcV, hfV, -⟩, hC, hL, hHo, hRo, hCh, hRl, hEn⟩ := hI
  obtain ⟨b1, b2, b3, iSel, iGd, iCur, iZero, iLk, iLkA, iLkB⟩ := hi
  refine lv_aload_n hx hb dX6_goesAhead_0 rfl (lv_at hl 0 rfl) ?_
  refine x_get (v := .ref (nm 1 1)) hx hb hts h_X6 hown hK hT rfl 1 (by decide) (hts (.fieldLink RX6 16 "ConfigBeacon" "allLayers" "Ljava/util/ArrayList;") (by decide +kernel)) (fun _ h => h) rfl dX6_goesAhead_1 ?_
  refine lv_iload_n hx hb dX6_goesAhead_4 rfl (lv_at hl 1 rfl) ?_
  refine xr_call (va_runV (As := [.int (nI i)]) (rest := []) ⟨hx, hb, hml, hown, hts⟩ (c_Jx4a65c_get_915e3 l D cA (nm 1 1) mcL dL nL capL fL i (by omega) hnL hcL (some (nm 3 i)) (hfL i (by omega))) (cwV 1 hts gX6_goesAhead_Jx4a65c_get_915e3 rfl rfl rfl (by decide +kernel) ⟨Nat.le_of_ble_eq_true rfl, Nat.le_of_ble_eq_true rfl⟩) (xPV hK hOL rfl ⟨hOL, hQL (by omega)⟩) rfl rfl hl.1 rfl (lv_room (Nat.le_of_ble_eq_true rfl)) dX6_goesAhead_5 ⟨Nat.le_of_ble_eq_true rfl, Nat.le_of_ble_eq_true rfl⟩) ?_
  refine x_cast hx hb hown (hts (.classLink RX6 84 "ConfigBeacon$Layer") (by decide +kernel)) hK (hL i (by omega)) rfl dX6_goesAhead_8 ?_
  refine x_getN (v := .int (f 3 i)) hx hb hts h_X4 hown hK (hL i (by omega)) rfl 3 (by decide) (va_Nw.use rfl (hK.2.2.1 ("ConfigBeacon", 92, "ConfigBeacon$Layer", "precedence", "I") (by decide))) (fun _ h => h) rfl dX6_goesAhead_11 ?_
  refine lv_istore_n (lv' := [(3, .int (f 3 i)), (0, .ref (nm 0 0)), (1, .int (nI i)), (2, .int (nI j))]) hx hb dX6_goesAhead_14 rfl hl (by decide) rfl (fun ls hl => ?_)
  refine lv_aload_n hx hb dX6_goesAhead_15 rfl (lv_at hl 1 rfl) ?_
  refine x_get (v := .ref (nm 1 1)) hx hb hts h_X6 hown hK hT rfl 1 (by decide) (hts (.fieldLink RX6 16 "ConfigBeacon" "allLayers" "Ljava/util/ArrayList;") (by decide +kernel)) (fun _ h => h) rfl dX6_goesAhead_16 ?_
  refine lv_iload_n hx hb dX6_goesAhead_19 rfl (lv_at hl 3 rfl) ?_
  refine xr_call (va_runV (As := [.int (nI j)]) (rest := []) ⟨hx, hb, hml, hown, hts⟩ (c_Jx4a65c_get_915e3 l D cA (nm 1 1) mcL dL nL capL fL j (by omega) hnL hcL (some (nm 3 j)) (hfL j (by omega))) (cwV 1 hts gX6_goesAhead_Jx4a65c_get_915e3 rfl rfl rfl (by decide +kernel) ⟨Nat.le_of_ble_eq_true rfl, Nat.le_of_ble_eq_true rfl⟩) (xPV hK hOL rfl ⟨hOL, hQL (by omega)⟩) rfl rfl hl.1 rfl (lv_room (Nat.le_of_ble_eq_true rfl)) dX6_goesAhead_20 ⟨Nat.le_of_ble_eq_true rfl, Nat.le_of_ble_eq_true rfl⟩) ?_
  refine x_cast hx hb hown (hts (.classLink RX6 84 "ConfigBeacon$Layer") (by decide +kernel)) hK (hL j (by omega)) rfl dX6_goesAhead_23 ?_
  refine x_getN (v := .int (f 3 j)) hx hb hts h_X4 hown hK (hL j (by omega)) rfl 3 (by decide) (va_Nw.use rfl (hK.2.2.1 ("ConfigBeacon", 92, "ConfigBeacon$Layer", "precedence", "I") (by decide))) (fun _ h => h) rfl dX6_goesAhead_26 ?_
  refine lv_istore (lv' := [(4, .int (f 3 j)), (3, .int (f 3 i)), (0, .ref (nm 0 0)), (1, .int (nI i)), (2, .int (nI j))]) hx hb dX6_goesAhead_29 hl (by decide) rfl (fun ls hl => ?_)
  refine lv_iload_n hx hb dX6_goesAhead_31 rfl (lv_at hl 1 rfl) ?_
  refine lv_iload hx hb dX6_goesAhead_32 (lv_at hl 0 rfl) ?_
  refine lv_icmp_gt (tgt := 48) hx hb dX6_goesAhead_34 (by decide) (fun c_1 => ?_) (fun c_1 => ?_)
  · refine lv_iconst (v := 1) hx hb dX6_goesAhead_48 (by decide) ?_
    refine lv_goto (tgt := 53) hx hb dX6_goesAhead_49 (by decide) ?_
    exact xr_zret hx hb hr hlocks (by first | (simp [ahd, bI, c_1, Int32.not_le.mpr c_1]; done) | (simp_all [ahd, bI]; done) | (simp [ahd, bI, c_1, Int32.not_le.mpr c_1]; omega)) dX6_goesAhead_53
  · refine lv_iload_n hx hb dX6_goesAhead_37 rfl (lv_at hl 1 rfl) ?_
    refine lv_iload hx hb dX6_goesAhead_38 (lv_at hl 0 rfl) ?_
    refine lv_icmp_ne (tgt := 52) hx hb dX6_goesAhead_40 (by decide) (fun c_2 => ?_) (fun c_2 => ?_)
    · refine lv_iconst (v := 0) hx hb dX6_goesAhead_52 (by decide) ?_
      exact xr_zret hx hb hr hlocks (by first | (simp [ahd, bI, c_1, Int32.not_lt.mp c_1, c_2]; done) | (simp_all [ahd, bI]; done) | (simp [ahd, bI, c_1, Int32.not_lt.mp c_1, c_2]; omega)) dX6_goesAhead_53
    · refine lv_iload_n hx hb dX6_goesAhead_43 rfl (lv_at hl 3 rfl) ?_
      refine lv_iload_n hx hb dX6_goesAhead_44 rfl (lv_at hl 4 rfl) ?_
      refine lv_icmp_le (tgt := 52) hx hb dX6_goesAhead_45 (by decide) (fun c_3 => ?_) (fun c_3 => ?_)
      · have n_3 : i ≤ j := (nI_leI (a := i) (b := j) (by omega) (by omega)).mp c_3
        refine lv_iconst (v := 0) hx hb dX6_goesAhead_52 (by decide) ?_
        exact xr_zret hx hb hr hlocks (by first | (simp [ahd, bI, c_1, Int32.not_lt.mp c_1, c_2, c_3, n_3, Int32.not_lt.mpr c_3]; done) | (simp_all [ahd, bI]; done) | (simp [ahd, bI, c_1, Int32.not_lt.mp c_1, c_2, c_3, n_3, Int32.not_lt.mpr c_3]; omega)) dX6_goesAhead_53
      · have n_3 : j < i := Nat.not_le.mp (fun q => c_3 ((nI_leI (a := i) (b := j) (by omega) (by omega)).mpr q))
        refine lv_iconst (v := 1) hx hb dX6_goesAhead_48 (by decide) ?_
        refine lv_goto (tgt := 53) hx hb dX6_goesAhead_49 (by decide) ?_
        exact xr_zret hx hb hr hlocks (by first | (simp [ahd, bI, c_1, Int32.not_lt.mp c_1, c_2, c_3, n_3, Int32.not_le.mp c_3]; done) | (simp_all [ahd, bI]; done) | (simp [ahd, bI, c_1, Int32.not_lt.mp c_1, c_2, c_3, n_3, Int32.not_le.mp c_3]; omega)) dX6_goesAhead_53
set_option maxHeartbeats 4000000 in
set_option maxRecDepth 100000 in
theorem c_X6_placeOf (l : Launch) (D : va_G) (cA : Nat → ClassId) (lab : Nat → Nat) (nm : Nat → Nat → Nat) (rf : Nat → Nat → Option Nat) (f : Nat → Nat → Int32) (nC nL nV : Nat) (hi : CRi f nC nL nV) (a9 : Nat) (ha9 : a9 < nL) : Met l yX6_placeOf wsX6_placeOf (rmK 4 0 0) (xP D cA [.ref (nm 0 0), .int (nI a9)] (CRv D cA lab nm rf f nC nL nV)) (xR (some (.int (nI (plcF (f 3) nL a9))))) 0 0 (fun _ => False) := by
  refine Met.ofW (cc := cX6_placeOf) (maxL := 4) (ret := (some .int)) (by decide) rfl ?_
  intro p e s m args below meth c s₁ B hml hv
  obtain ⟨rfl, hK, hI⟩ := hv
  have hx := B.exec
  have hb := B.bytes
  have hr := B.returns
  have hts := atoms_spec (ws := wsX6_placeOf) B.pre
  have hown : s.vm.findClass RX6 = some m.cls := findClass_of_methodNamed B.named
  have hlocks := B.notSynchronized
  have hl := lv_entry ([.ref (nm 0 0), .int (nI a9)]) (n := 4) (Nat.le_of_ble_eq_true rfl)
  rw [lg_entry_eq]
  generalize (lg_sl ([.ref (nm 0 0), .int (nI a9)]) ++ List.replicate (4 - (lg_sl ([.ref (nm 0 0), .int (nI a9)])).length) Slot.unset).toArray = ls at hl ⊢
  have hl : lv_has ls 4 [(0, .ref (nm 0 0)), (1, .int (nI a9))] := hl
  have h_X4 : ∀ w ∈ wsX40, w ∈ wsX6_placeOf := fun _ h => List.mem_cons_of_mem _ (List.mem_append_right _ h)
  have h_X6 : ∀ w ∈ wsX60, w ∈ wsX6_placeOf := fun _ h => List.mem_cons_of_mem _ (List.mem_append_left _ (List.mem_append_left _ (List.mem_append_right _ h)))
  have h_Jx4a65c : ∀ w ∈ wsJx4a65c0, w ∈ wsX6_placeOf := fun _ h => List.mem_cons_of_mem _ (List.mem_append_left _ (List.mem_append_right _ h))
  have hV := hI
  obtain ⟨hT, ⟨mcC, dC, capC, fC, hOC, hQC, hnC, hcC, hfC, -⟩, ⟨mcL, dL, capL, fL, hOL, hQL, hnL, hcL, hfL, -⟩, ⟨mcV, dV, capV, fV, hOV, hQV, hnV, hcV, hfV, -⟩, hC, hL, hHo, hRo, hCh, hRl, hEn⟩ := hI
  obtain ⟨b1, b2, b3, iSel, iGd, iCur, iZero, iLk, iLkA, iLkB⟩ := hi
  refine lv_iconst (v := 0) hx hb dX6_placeOf_0 (by decide) ?_
  refine lv_istore_n (lv' := [(2, .int 0), (0, .ref (nm 0 0)), (1, .int (nI a9))]) hx hb dX6_placeOf_1 rfl hl (by decide) rfl (fun ls hl => ?_)
  refine lv_iconst (v := 0) hx hb dX6_placeOf_2 (by decide) ?_
  refine lv_istore_n (lv' := [(3, .int 0), (2, .int 0), (0, .ref (nm 0 0)), (1, .int (nI a9))]) hx hb dX6_placeOf_3 rfl hl (by decide) rfl (fun ls hl => ?_)
  refine w_loopR (fun (i : Nat) ls => i ≤ nL ∧ lv_has ls 4 [(0, .ref (nm 0 0)), (1, .int (nI a9)), (2, .int (nI (cntF (fun b => ahd (f 3) b a9) i))), (3, .int (nI i))]) (fun (i : Nat) => nL - i) ?_ 0 ⟨Nat.zero_le _, lv_sub hl [2, 3, 1, 0] rfl⟩
  intro i ls h9 ih
  obtain ⟨hi8, hl⟩ := h9
  refine lv_iload_n hx hb dX6_placeOf_4 rfl (lv_at hl 3 rfl) ?_
  refine lv_aload_n hx hb dX6_placeOf_5 rfl (lv_at hl 0 rfl) ?_
  refine x_get (v := .ref (nm 1 1)) hx hb hts h_X6 hown hK hT rfl 1 (by decide) (hts (.fieldLink RX6 16 "ConfigBeacon" "allLayers" "Ljava/util/ArrayList;") (by decide +kernel)) (fun _ h => h) rfl dX6_placeOf_6 ?_
  refine xr_call (va_runV (As := []) (rest := [.int (nI i)]) ⟨hx, hb, hml, hown, hts⟩ (c_Jx4a65c_size_8abf5 l D cA (nm 1 1) mcL dL nL) (cwV 0 hts gX6_placeOf_Jx4a65c_size_8abf5 rfl rfl rfl (by decide +kernel) ⟨Nat.le_of_ble_eq_true rfl, Nat.le_of_ble_eq_true rfl⟩) (xPV hK hOL rfl hOL) rfl rfl hl.1 rfl (lv_room (Nat.le_of_ble_eq_true rfl)) dX6_placeOf_9 ⟨Nat.le_of_ble_eq_true rfl, Nat.le_of_ble_eq_true rfl⟩) ?_
  refine lv_icmp_ge (tgt := 33) hx hb dX6_placeOf_12 (by decide) (fun c_1 => ?_) (fun c_1 => ?_)
  · have n_1 : nL ≤ i := (nI_leI (a := nL) (b := i) (by omega) (by omega)).mp c_1
    refine lv_iload_n hx hb dX6_placeOf_33 rfl (lv_at hl 2 rfl) ?_
    exact xr_iret hx hb hr hlocks (by rw [plcF, show nL = i by omega]) dX6_placeOf_34
  · have n_1 : i < nL := Nat.not_le.mp (fun q => c_1 ((nI_leI (a := nL) (b := i) (by omega) (by omega)).mpr q))
    refine lv_aload_n hx hb dX6_placeOf_15 rfl (lv_at hl 0 rfl) ?_
    refine lv_iload_n hx hb dX6_placeOf_16 rfl (lv_at hl 3 rfl) ?_
    refine lv_iload_n hx hb dX6_placeOf_17 rfl (lv_at hl 1 rfl) ?_
    refine xr_call (va_runV (As := [.int (nI i), .int (nI a9)]) (rest := []) ⟨hx, hb, hml, hown, hts⟩ (c_X6_goesAhead l D cA lab nm rf f nC nL nV (⟨b1, b2, b3, iSel, iGd, iCur, iZero, iLk, iLkA, iLkB⟩) i a9 (by omega) (by omega)) (cwV 2 hts gX6_placeOf_X6_goesAhead rfl rfl rfl (by decide +kernel) ⟨Nat.le_of_ble_eq_true rfl, Nat.le_of_ble_eq_true rfl⟩) (xPV hK hT rfl hV) rfl rfl hl.1 rfl (lv_room (Nat.le_of_ble_eq_true rfl)) dX6_placeOf_18 ⟨Nat.le_of_ble_eq_true rfl, Nat.le_of_ble_eq_true rfl⟩) ?_
    refine xb_eq (tgt := 27) hx hb dX6_placeOf_21 (by decide) (fun c_2 => ?_) (fun c_2 => ?_)
    · have ec9 : ((nI (cntF (fun b => ahd (f 3) b a9) i)) : Int32) = (nI (cntF (fun b => ahd (f 3) b a9) (i + 1))) := by rw [cntF_f (by simp [c_2])]
      rw [ec9] at hl
      refine lv_iinc (v := (nI (i + 1))) (lv' := [(3, .int (nI (i + 1))), (0, .ref (nm 0 0)), (1, .int (nI a9)), (2, .int (nI (cntF (fun b => ahd (f 3) b a9) (i + 1))))]) hx hb dX6_placeOf_27 hl (k := 3) rfl (ni_inc i) (by decide) rfl (fun ls hl => ?_)
      refine lv_goto (tgt := 4) hx hb dX6_placeOf_30 (by decide) ?_
      exact ih (i + 1) _ ⟨(by omega), lv_sub hl [1, 2, 3, 0] rfl⟩ (by omega)
    · refine lv_iinc (v := (nI ((cntF (fun b => ahd (f 3) b a9) i) + 1))) (lv' := [(2, .int (nI ((cntF (fun b => ahd (f 3) b a9) i) + 1))), (0, .ref (nm 0 0)), (1, .int (nI a9)), (3, .int (nI i))]) hx hb dX6_placeOf_24 hl (k := 2) rfl (ni_inc (cntF (fun b => ahd (f 3) b a9) i)) (by decide) rfl (fun ls hl => ?_)
      have ec9 : ((nI ((cntF (fun b => ahd (f 3) b a9) i) + 1)) : Int32) = (nI (cntF (fun b => ahd (f 3) b a9) (i + 1))) := by rw [cntF_t (by simp [c_2])]
      rw [ec9] at hl
      refine lv_iinc (v := (nI (i + 1))) (lv' := [(3, .int (nI (i + 1))), (2, .int (nI (cntF (fun b => ahd (f 3) b a9) (i + 1)))), (0, .ref (nm 0 0)), (1, .int (nI a9))]) hx hb dX6_placeOf_27 hl (k := 3) rfl (ni_inc i) (by decide) rfl (fun ls hl => ?_)
      refine lv_goto (tgt := 4) hx hb dX6_placeOf_30 (by decide) ?_
      exact ih (i + 1) _ ⟨(by omega), lv_sub hl [2, 3, 1, 0] rfl⟩ (by omega)
set_option maxHeartbeats 4000000 in
set_option maxRecDepth 100000 in
theorem c_X6_reaches (l : Launch) (D : va_G) (cA : Nat → ClassId) (lab : Nat → Nat) (nm : Nat → Nat → Nat) (rf : Nat → Nat → Option Nat) (f : Nat → Nat → Int32) (nC nL nV : Nat) (hi : CRi f nC nL nV) (a9 k9 : Nat) (ha9 : a9 < nL) (hk9 : k9 < nC) : Met l yX6_reaches wsX6_reaches (rmK 3 0 0) (xP D cA [.ref (nm 0 0), .int (nI a9), .int (nI k9)] (CRv D cA lab nm rf f nC nL nV)) (xR (some (.int (bI (forF f a9 k9))))) 0 0 (fun _ => False) := by
  refine Met.ofW (cc := cX6_reaches) (maxL := 3) (ret := (some .boolean)) (by decide) rfl ?_
  intro p e s m args below meth c s₁ B hml hv
  obtain ⟨rfl, hK, hI⟩ := hv
  have hx := B.exec
  have hb := B.bytes
  have hr := B.returns
  have hts := atoms_spec (ws := wsX6_reaches) B.pre
  have hown : s.vm.findClass RX6 = some m.cls := findClass_of_methodNamed B.named
  have hlocks := B.notSynchronized
  have hl := lv_entry ([.ref (nm 0 0), .int (nI a9), .int (nI k9)]) (n := 3) (Nat.le_of_ble_eq_true rfl)
  rw [lg_entry_eq]
  generalize (lg_sl ([.ref (nm 0 0), .int (nI a9), .int (nI k9)]) ++ List.replicate (3 - (lg_sl ([.ref (nm 0 0), .int (nI a9), .int (nI k9)])).length) Slot.unset).toArray = ls at hl ⊢
  have hl : lv_has ls 3 [(0, .ref (nm 0 0)), (1, .int (nI a9)), (2, .int (nI k9))] := hl
  have h_X0 : ∀ w ∈ wsX00, w ∈ wsX6_reaches := fun _ h => List.mem_cons_of_mem _ (List.mem_append_right _ h)
  have h_X4 : ∀ w ∈ wsX40, w ∈ wsX6_reaches := fun _ h => List.mem_cons_of_mem _ (List.mem_append_left _ (List.mem_append_right _ h))
  have h_X6 : ∀ w ∈ wsX60, w ∈ wsX6_reaches := fun _ h => List.mem_cons_of_mem _ (List.mem_append_left _ (List.mem_append_left _ (List.mem_append_left _ (List.mem_append_right _ h))))
  have h_Jx4a65c : ∀ w ∈ wsJx4a65c0, w ∈ wsX6_reaches := fun _ h => List.mem_cons_of_mem _ (List.mem_append_left _ (List.mem_append_left _ (List.mem_append_right _ h)))
  have hV := hI
  obtain ⟨hT, ⟨mcC, dC, capC, fC, hOC, hQC, hnC, hcC, hfC, -⟩, ⟨mcL, dL, capL, fL, hOL, hQL, hnL, hcL, hfL, -⟩, ⟨mcV, dV, capV, fV, hOV, hQV, hnV, hcV, hfV, -⟩, hC, hL, hHo, hRo, hCh, hRl, hEn⟩ := hI
  obtain ⟨b1, b2, b3, iSel, iGd, iCur, iZero, iLk, iLkA, iLkB⟩ := hi
  refine lv_aload_n hx hb dX6_reaches_0 rfl (lv_at hl 0 rfl) ?_
  refine x_get (v := .ref (nm 1 1)) hx hb hts h_X6 hown hK hT rfl 1 (by decide) (hts (.fieldLink RX6 16 "ConfigBeacon" "allLayers" "Ljava/util/ArrayList;") (by decide +kernel)) (fun _ h => h) rfl dX6_reaches_1 ?_
  refine lv_iload_n hx hb dX6_reaches_4 rfl (lv_at hl 1 rfl) ?_
  refine xr_call (va_runV (As := [.int (nI a9)]) (rest := []) ⟨hx, hb, hml, hown, hts⟩ (c_Jx4a65c_get_915e3 l D cA (nm 1 1) mcL dL nL capL fL a9 (by omega) hnL hcL (some (nm 3 a9)) (hfL a9 (by omega))) (cwV 1 hts gX6_reaches_Jx4a65c_get_915e3 rfl rfl rfl (by decide +kernel) ⟨Nat.le_of_ble_eq_true rfl, Nat.le_of_ble_eq_true rfl⟩) (xPV hK hOL rfl ⟨hOL, hQL (by omega)⟩) rfl rfl hl.1 rfl (lv_room (Nat.le_of_ble_eq_true rfl)) dX6_reaches_5 ⟨Nat.le_of_ble_eq_true rfl, Nat.le_of_ble_eq_true rfl⟩) ?_
  refine x_cast hx hb hown (hts (.classLink RX6 84 "ConfigBeacon$Layer") (by decide +kernel)) hK (hL a9 (by omega)) rfl dX6_reaches_8 ?_
  refine lv_iload_n hx hb dX6_reaches_11 rfl (lv_at hl 2 rfl) ?_
  refine lv_aload_n hx hb dX6_reaches_12 rfl (lv_at hl 0 rfl) ?_
  refine x_get (v := .ref (nm 1 0)) hx hb hts h_X6 hown hK hT rfl 0 (by decide) (hts (.fieldLink RX6 10 "ConfigBeacon" "allClients" "Ljava/util/ArrayList;") (by decide +kernel)) (fun _ h => h) rfl dX6_reaches_13 ?_
  refine lv_iload_n hx hb dX6_reaches_16 rfl (lv_at hl 2 rfl) ?_
  refine xr_call (va_runV (As := [.int (nI k9)]) (rest := [.int (nI k9), .ref (nm 3 a9)]) ⟨hx, hb, hml, hown, hts⟩ (c_Jx4a65c_get_915e3 l D cA (nm 1 0) mcC dC nC capC fC k9 (by omega) hnC hcC (some (nm 2 k9)) (hfC k9 (by omega))) (cwV 1 hts gX6_reaches_Jx4a65c_get_915e3 rfl rfl rfl (by decide +kernel) ⟨Nat.le_of_ble_eq_true rfl, Nat.le_of_ble_eq_true rfl⟩) (xPV hK hOC rfl ⟨hOC, hQC (by omega)⟩) rfl rfl hl.1 rfl (lv_room (Nat.le_of_ble_eq_true rfl)) dX6_reaches_17 ⟨Nat.le_of_ble_eq_true rfl, Nat.le_of_ble_eq_true rfl⟩) ?_
  refine x_cast hx hb hown (hts (.classLink RX6 55 "ConfigBeacon$Client") (by decide +kernel)) hK (hC k9 (by omega)) rfl dX6_reaches_20 ?_
  refine xr_call (va_runV (As := [.int (nI k9), .ref (nm 2 k9)]) (rest := []) ⟨hx, hb, hml, hown, hts⟩ (c_X4_selects l D cA (nm 3 a9) a9 (f 4 a9) (f 5 a9) (f 3 a9) (nm 4 a9) (nm 5 a9) (nm 6 a9) (nI k9) (nm 2 k9) (f 0 k9) (f 1 k9) (iSel a9 (by omega))) (cwV 2 hts gX6_reaches_X4_selects rfl rfl rfl (by decide +kernel) ⟨Nat.le_of_ble_eq_true rfl, Nat.le_of_ble_eq_true rfl⟩) (xPV hK (hL a9 (by omega)) rfl ⟨hL a9 (by omega), hC k9 (by omega)⟩) rfl rfl hl.1 rfl (lv_room (Nat.le_of_ble_eq_true rfl)) dX6_reaches_23 ⟨Nat.le_of_ble_eq_true rfl, Nat.le_of_ble_eq_true rfl⟩) ?_
  exact xr_zret hx hb hr hlocks rfl dX6_reaches_26
