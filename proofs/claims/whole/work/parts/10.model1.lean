set_option maxHeartbeats 4000000 in
set_option maxRecDepth 100000 in
/-- isIn -/
theorem c_X7_isIn (l : Launch) (D : va_G) (cA : Nat → ClassId) (v : Int32) (lo : Int32) (hi : Int32) : Met l yX7_isIn wsX7_isIn (rmK 0 0 0) (xP D cA [.int v, .int lo, .int hi] (fun _ => True)) (xR (some (.int (bI (inB v lo hi))))) 0 0 (fun _ => False) := by
  refine Met.ofW (cc := cX7_isIn) (maxL := 3) (ret := (some .boolean)) (by decide) rfl ?_
  intro p e s m args below meth c s₁ B hml hv
  obtain ⟨rfl, hK, hI⟩ := hv
  have hx := B.exec
  have hb := B.bytes
  have hr := B.returns
  have hts := atoms_spec (ws := wsX7_isIn) B.pre
  have hown : s.vm.findClass RX7 = some m.cls := findClass_of_methodNamed B.named
  have hlocks := B.notSynchronized
  have hl := lv_entry ([.int v, .int lo, .int hi]) (n := 3) (Nat.le_of_ble_eq_true rfl)
  rw [lg_entry_eq]
  generalize (lg_sl ([.int v, .int lo, .int hi]) ++ List.replicate (3 - (lg_sl ([.int v, .int lo, .int hi])).length) Slot.unset).toArray = ls at hl ⊢
  have hl : lv_has ls 3 [(0, .int v), (1, .int lo), (2, .int hi)] := hl
  refine lv_iload_n hx hb dX7_isIn_0 rfl (lv_at hl 0 rfl) ?_
  refine lv_iload_n hx hb dX7_isIn_1 rfl (lv_at hl 1 rfl) ?_
  refine lv_icmp_lt (tgt := 14) hx hb dX7_isIn_2 (by decide) (fun c_1 => ?_) (fun c_1 => ?_)
  · refine lv_iconst (v := 0) hx hb dX7_isIn_14 (by decide) ?_
    exact xr_zret hx hb hr hlocks (by first | (simp [inB, bI, c_1, Int32.not_le.mpr c_1]; done) | (simp_all [inB, bI]; done) | (simp [inB, bI, c_1, Int32.not_le.mpr c_1]; omega)) dX7_isIn_15
  · refine lv_iload_n hx hb dX7_isIn_5 rfl (lv_at hl 0 rfl) ?_
    refine lv_iload_n hx hb dX7_isIn_6 rfl (lv_at hl 2 rfl) ?_
    refine lv_icmp_gt (tgt := 14) hx hb dX7_isIn_7 (by decide) (fun c_2 => ?_) (fun c_2 => ?_)
    · refine lv_iconst (v := 0) hx hb dX7_isIn_14 (by decide) ?_
      exact xr_zret hx hb hr hlocks (by first | (simp [inB, bI, c_1, Int32.not_lt.mp c_1, c_2, Int32.not_le.mpr c_2]; done) | (simp_all [inB, bI]; done) | (simp [inB, bI, c_1, Int32.not_lt.mp c_1, c_2, Int32.not_le.mpr c_2]; omega)) dX7_isIn_15
    · refine lv_iconst (v := 1) hx hb dX7_isIn_10 (by decide) ?_
      refine lv_goto (tgt := 15) hx hb dX7_isIn_11 (by decide) ?_
      exact xr_zret hx hb hr hlocks (by first | (simp [inB, bI, c_1, Int32.not_lt.mp c_1, c_2, Int32.not_lt.mp c_2]; done) | (simp_all [inB, bI]; done) | (simp [inB, bI, c_1, Int32.not_lt.mp c_1, c_2, Int32.not_lt.mp c_2]; omega)) dX7_isIn_15
set_option maxHeartbeats 4000000 in
set_option maxRecDepth 100000 in
theorem c_X7_isSetting (l : Launch) (D : va_G) (cA : Nat → ClassId) (v : Int32) : Met l yX7_isSetting wsX7_isSetting (rmK 1 0 0) (xP D cA [.int v] (fun _ => True)) (xR (some (.int (bI (okS v))))) 0 0 (fun _ => False) := by
  refine Met.ofW (cc := cX7_isSetting) (maxL := 1) (ret := (some .boolean)) (by decide) rfl ?_
  intro p e s m args below meth c s₁ B hml hv
  obtain ⟨rfl, hK, hI⟩ := hv
  have hx := B.exec
  have hb := B.bytes
  have hr := B.returns
  have hts := atoms_spec (ws := wsX7_isSetting) B.pre
  have hown : s.vm.findClass RX7 = some m.cls := findClass_of_methodNamed B.named
  have hlocks := B.notSynchronized
  have hl := lv_entry ([.int v]) (n := 1) (Nat.le_of_ble_eq_true rfl)
  rw [lg_entry_eq]
  generalize (lg_sl ([.int v]) ++ List.replicate (1 - (lg_sl ([.int v])).length) Slot.unset).toArray = ls at hl ⊢
  have hl : lv_has ls 1 [(0, .int v)] := hl
  refine lv_iload_n hx hb dX7_isSetting_0 rfl (lv_at hl 0 rfl) ?_
  refine lv_iconst (v := 0) hx hb dX7_isSetting_1 (by decide) ?_
  refine lv_bipush (v := 15) hx hb dX7_isSetting_2 (by decide) ?_
  refine xr_call (va_runS (As := [.int v, .int 0, .int 15]) (rest := []) ⟨hx, hb, hml, hown, hts⟩ (c_X7_isIn l D cA v 0 15) (va_cwS 3 hts gX7_isSetting_X7_isIn rfl rfl rfl (by decide +kernel) ⟨Nat.le_of_ble_eq_true rfl, Nat.le_of_ble_eq_true rfl⟩) (xPS hK trivial) rfl rfl hl.1 rfl (lv_room (Nat.le_of_ble_eq_true rfl)) dX7_isSetting_4 ⟨Nat.le_of_ble_eq_true rfl, Nat.le_of_ble_eq_true rfl⟩) ?_
  exact xr_zret hx hb hr hlocks (by first | (simp [okS]; done) | (simp_all [okS]; done) | (simp [okS]; omega)) dX7_isSetting_7
set_option maxHeartbeats 4000000 in
set_option maxRecDepth 100000 in
theorem c_X7_isOwner (l : Launch) (D : va_G) (cA : Nat → ClassId) (v : Int32) : Met l yX7_isOwner wsX7_isOwner (rmK 1 0 0) (xP D cA [.int v] (fun _ => True)) (xR (some (.int (bI (okO v))))) 0 0 (fun _ => False) := by
  refine Met.ofW (cc := cX7_isOwner) (maxL := 1) (ret := (some .boolean)) (by decide) rfl ?_
  intro p e s m args below meth c s₁ B hml hv
  obtain ⟨rfl, hK, hI⟩ := hv
  have hx := B.exec
  have hb := B.bytes
  have hr := B.returns
  have hts := atoms_spec (ws := wsX7_isOwner) B.pre
  have hown : s.vm.findClass RX7 = some m.cls := findClass_of_methodNamed B.named
  have hlocks := B.notSynchronized
  have hl := lv_entry ([.int v]) (n := 1) (Nat.le_of_ble_eq_true rfl)
  rw [lg_entry_eq]
  generalize (lg_sl ([.int v]) ++ List.replicate (1 - (lg_sl ([.int v])).length) Slot.unset).toArray = ls at hl ⊢
  have hl : lv_has ls 1 [(0, .int v)] := hl
  refine lv_iload_n hx hb dX7_isOwner_0 rfl (lv_at hl 0 rfl) ?_
  refine lv_iconst (v := 1) hx hb dX7_isOwner_1 (by decide) ?_
  refine lv_bipush (v := 9) hx hb dX7_isOwner_2 (by decide) ?_
  refine xr_call (va_runS (As := [.int v, .int 1, .int 9]) (rest := []) ⟨hx, hb, hml, hown, hts⟩ (c_X7_isIn l D cA v 1 9) (va_cwS 3 hts gX7_isOwner_X7_isIn rfl rfl rfl (by decide +kernel) ⟨Nat.le_of_ble_eq_true rfl, Nat.le_of_ble_eq_true rfl⟩) (xPS hK trivial) rfl rfl hl.1 rfl (lv_room (Nat.le_of_ble_eq_true rfl)) dX7_isOwner_4 ⟨Nat.le_of_ble_eq_true rfl, Nat.le_of_ble_eq_true rfl⟩) ?_
  exact xr_zret hx hb hr hlocks (by first | (simp [okO]; done) | (simp_all [okO]; done) | (simp [okO]; omega)) dX7_isOwner_7
set_option maxHeartbeats 4000000 in
set_option maxRecDepth 100000 in
theorem c_X7_isBase (l : Launch) (D : va_G) (cA : Nat → ClassId) (v : Int32) : Met l yX7_isBase wsX7_isBase (rmK 1 0 0) (xP D cA [.int v] (fun _ => True)) (xR (some (.int (bI (okB v))))) 0 0 (fun _ => False) := by
  refine Met.ofW (cc := cX7_isBase) (maxL := 1) (ret := (some .boolean)) (by decide) rfl ?_
  intro p e s m args below meth c s₁ B hml hv
  obtain ⟨rfl, hK, hI⟩ := hv
  have hx := B.exec
  have hb := B.bytes
  have hr := B.returns
  have hts := atoms_spec (ws := wsX7_isBase) B.pre
  have hown : s.vm.findClass RX7 = some m.cls := findClass_of_methodNamed B.named
  have hlocks := B.notSynchronized
  have hl := lv_entry ([.int v]) (n := 1) (Nat.le_of_ble_eq_true rfl)
  rw [lg_entry_eq]
  generalize (lg_sl ([.int v]) ++ List.replicate (1 - (lg_sl ([.int v])).length) Slot.unset).toArray = ls at hl ⊢
  have hl : lv_has ls 1 [(0, .int v)] := hl
  refine lv_iload_n hx hb dX7_isBase_0 rfl (lv_at hl 0 rfl) ?_
  refine lv_sipush (v := (-9999)) hx hb dX7_isBase_1 (by decide) ?_
  refine lv_sipush (v := 9999) hx hb dX7_isBase_4 (by decide) ?_
  refine xr_call (va_runS (As := [.int v, .int (-9999), .int 9999]) (rest := []) ⟨hx, hb, hml, hown, hts⟩ (c_X7_isIn l D cA v (-9999) 9999) (va_cwS 3 hts gX7_isBase_X7_isIn rfl rfl rfl (by decide +kernel) ⟨Nat.le_of_ble_eq_true rfl, Nat.le_of_ble_eq_true rfl⟩) (xPS hK trivial) rfl rfl hl.1 rfl (lv_room (Nat.le_of_ble_eq_true rfl)) dX7_isBase_7 ⟨Nat.le_of_ble_eq_true rfl, Nat.le_of_ble_eq_true rfl⟩) ?_
  exact xr_zret hx hb hr hlocks (by first | (simp [okB]; done) | (simp_all [okB]; done) | (simp [okB]; omega)) dX7_isBase_10
set_option maxHeartbeats 4000000 in
set_option maxRecDepth 100000 in
theorem c_X7_isEight (l : Launch) (D : va_G) (cA : Nat → ClassId) (v : Int32) : Met l yX7_isEight wsX7_isEight (rmK 1 0 0) (xP D cA [.int v] (fun _ => True)) (xR (some (.int (bI (ok8 v))))) 0 0 (fun _ => False) := by
  refine Met.ofW (cc := cX7_isEight) (maxL := 1) (ret := (some .boolean)) (by decide) rfl ?_
  intro p e s m args below meth c s₁ B hml hv
  obtain ⟨rfl, hK, hI⟩ := hv
  have hx := B.exec
  have hb := B.bytes
  have hr := B.returns
  have hts := atoms_spec (ws := wsX7_isEight) B.pre
  have hown : s.vm.findClass RX7 = some m.cls := findClass_of_methodNamed B.named
  have hlocks := B.notSynchronized
  have hl := lv_entry ([.int v]) (n := 1) (Nat.le_of_ble_eq_true rfl)
  rw [lg_entry_eq]
  generalize (lg_sl ([.int v]) ++ List.replicate (1 - (lg_sl ([.int v])).length) Slot.unset).toArray = ls at hl ⊢
  have hl : lv_has ls 1 [(0, .int v)] := hl
  refine lv_iload_n hx hb dX7_isEight_0 rfl (lv_at hl 0 rfl) ?_
  refine lv_iconst (v := 0) hx hb dX7_isEight_1 (by decide) ?_
  refine lv_bipush (v := 7) hx hb dX7_isEight_2 (by decide) ?_
  refine xr_call (va_runS (As := [.int v, .int 0, .int 7]) (rest := []) ⟨hx, hb, hml, hown, hts⟩ (c_X7_isIn l D cA v 0 7) (va_cwS 3 hts gX7_isEight_X7_isIn rfl rfl rfl (by decide +kernel) ⟨Nat.le_of_ble_eq_true rfl, Nat.le_of_ble_eq_true rfl⟩) (xPS hK trivial) rfl rfl hl.1 rfl (lv_room (Nat.le_of_ble_eq_true rfl)) dX7_isEight_4 ⟨Nat.le_of_ble_eq_true rfl, Nat.le_of_ble_eq_true rfl⟩) ?_
  exact xr_zret hx hb hr hlocks (by first | (simp [ok8]; done) | (simp_all [ok8]; done) | (simp [ok8]; omega)) dX7_isEight_7
set_option maxHeartbeats 4000000 in
set_option maxRecDepth 100000 in
theorem c_X7_isClient (l : Launch) (D : va_G) (cA : Nat → ClassId) (A : Nat → Prop) (M : Nat) (ad : Nat → Nat) (σ : MS) (v : Int32) (nC : Nat) (hn : σ.1 2 = nI nC) (h : nC < 65536) : Met l yX7_isClient wsX7_isClient (rmK 1 0 0) (xP D cA [.ref M, .int v] (MR D cA A M ad σ)) (xR (some (.int (bI (okN nC v))))) 0 0 (fun _ => False) := by
  refine Met.ofW (cc := cX7_isClient) (maxL := 2) (ret := (some .boolean)) (by decide) rfl ?_
  intro p e s m args below meth c s₁ B hml hv
  obtain ⟨rfl, hK, hI⟩ := hv
  have hx := B.exec
  have hb := B.bytes
  have hr := B.returns
  have hts := atoms_spec (ws := wsX7_isClient) B.pre
  have hown : s.vm.findClass RX7 = some m.cls := findClass_of_methodNamed B.named
  have hlocks := B.notSynchronized
  have hl := lv_entry ([.ref M, .int v]) (n := 2) (Nat.le_of_ble_eq_true rfl)
  rw [lg_entry_eq]
  generalize (lg_sl ([.ref M, .int v]) ++ List.replicate (2 - (lg_sl ([.ref M, .int v])).length) Slot.unset).toArray = ls at hl ⊢
  have hl : lv_has ls 2 [(0, .ref M), (1, .int v)] := hl
  have hM : MR D cA A M ad σ s.heap := hI
  have h7 : ∀ w ∈ wsX70, w ∈ wsX7_isClient := fun _ h => List.mem_cons_of_mem _ (List.mem_append_right _ h)
  refine lv_iload_n hx hb dX7_isClient_0 rfl (lv_at hl 1 rfl) ?_
  refine lv_iconst (v := 0) hx hb dX7_isClient_1 (by decide) ?_
  refine lv_aload_n hx hb dX7_isClient_2 rfl (lv_at hl 0 rfl) ?_
  refine m_get (v := .int (σ.1 2)) hx hb hts h7 hown hK hM 2 (by decide) (hts (.fieldLink RX7 64 "ConfigBeaconModel" "clients" "I") (by decide +kernel)) rfl dX7_isClient_3 ?_
  refine lv_iconst (v := 1) hx hb dX7_isClient_6 (by decide) ?_
  refine lv_isub hx hb dX7_isClient_7 ?_
  refine xr_call (va_runS (As := [.int v, .int 0, .int ((σ.1 2) - 1)]) (rest := []) ⟨hx, hb, hml, hown, hts⟩ (c_X7_isIn l D cA v 0 ((σ.1 2) - 1)) (va_cwS 3 hts gX7_isClient_X7_isIn rfl rfl rfl (by decide +kernel) ⟨Nat.le_of_ble_eq_true rfl, Nat.le_of_ble_eq_true rfl⟩) (xPS hK trivial) rfl rfl hl.1 rfl (lv_room (Nat.le_of_ble_eq_true rfl)) dX7_isClient_8 ⟨Nat.le_of_ble_eq_true rfl, Nat.le_of_ble_eq_true rfl⟩) ?_
  exact xr_zret hx hb hr hlocks (by rw [hn, inB_okN h]) dX7_isClient_11
set_option maxHeartbeats 4000000 in
set_option maxRecDepth 100000 in
theorem c_X7_isLayer (l : Launch) (D : va_G) (cA : Nat → ClassId) (A : Nat → Prop) (M : Nat) (ad : Nat → Nat) (σ : MS) (v : Int32) (nL : Nat) (hn : σ.1 6 = nI nL) (h : nL < 65536) : Met l yX7_isLayer wsX7_isLayer (rmK 1 0 0) (xP D cA [.ref M, .int v] (MR D cA A M ad σ)) (xR (some (.int (bI (okN nL v))))) 0 0 (fun _ => False) := by
  refine Met.ofW (cc := cX7_isLayer) (maxL := 2) (ret := (some .boolean)) (by decide) rfl ?_
  intro p e s m args below meth c s₁ B hml hv
  obtain ⟨rfl, hK, hI⟩ := hv
  have hx := B.exec
  have hb := B.bytes
  have hr := B.returns
  have hts := atoms_spec (ws := wsX7_isLayer) B.pre
  have hown : s.vm.findClass RX7 = some m.cls := findClass_of_methodNamed B.named
  have hlocks := B.notSynchronized
  have hl := lv_entry ([.ref M, .int v]) (n := 2) (Nat.le_of_ble_eq_true rfl)
  rw [lg_entry_eq]
  generalize (lg_sl ([.ref M, .int v]) ++ List.replicate (2 - (lg_sl ([.ref M, .int v])).length) Slot.unset).toArray = ls at hl ⊢
  have hl : lv_has ls 2 [(0, .ref M), (1, .int v)] := hl
  have hM : MR D cA A M ad σ s.heap := hI
  have h7 : ∀ w ∈ wsX70, w ∈ wsX7_isLayer := fun _ h => List.mem_cons_of_mem _ (List.mem_append_right _ h)
  refine lv_iload_n hx hb dX7_isLayer_0 rfl (lv_at hl 1 rfl) ?_
  refine lv_iconst (v := 0) hx hb dX7_isLayer_1 (by decide) ?_
  refine lv_aload_n hx hb dX7_isLayer_2 rfl (lv_at hl 0 rfl) ?_
  refine m_get (v := .int (σ.1 6)) hx hb hts h7 hown hK hM 6 (by decide) (hts (.fieldLink RX7 71 "ConfigBeaconModel" "layers" "I") (by decide +kernel)) rfl dX7_isLayer_3 ?_
  refine lv_iconst (v := 1) hx hb dX7_isLayer_6 (by decide) ?_
  refine lv_isub hx hb dX7_isLayer_7 ?_
  refine xr_call (va_runS (As := [.int v, .int 0, .int ((σ.1 6) - 1)]) (rest := []) ⟨hx, hb, hml, hown, hts⟩ (c_X7_isIn l D cA v 0 ((σ.1 6) - 1)) (va_cwS 3 hts gX7_isLayer_X7_isIn rfl rfl rfl (by decide +kernel) ⟨Nat.le_of_ble_eq_true rfl, Nat.le_of_ble_eq_true rfl⟩) (xPS hK trivial) rfl rfl hl.1 rfl (lv_room (Nat.le_of_ble_eq_true rfl)) dX7_isLayer_8 ⟨Nat.le_of_ble_eq_true rfl, Nat.le_of_ble_eq_true rfl⟩) ?_
  exact xr_zret hx hb hr hlocks (by rw [hn, inB_okN h]) dX7_isLayer_11
set_option maxHeartbeats 4000000 in
set_option maxRecDepth 100000 in
theorem c_X7_thrown (l : Launch) (D : va_G) (cA : Nat → ClassId) (A : Nat → Prop) (M : Nat) (ad : Nat → Nat) (σ : MS) : Met l yX7_thrown wsX7_thrown (rmK 0 0 0) (xP D cA [.ref M] (MR D cA A M ad σ)) (xR (some (.int (σ.1 25)))) 0 0 (fun _ => False) := by
  refine Met.ofW (cc := cX7_thrown) (maxL := 1) (ret := (some .int)) (by decide) rfl ?_
  intro p e s m args below meth c s₁ B hml hv
  obtain ⟨rfl, hK, hI⟩ := hv
  have hx := B.exec
  have hb := B.bytes
  have hr := B.returns
  have hts := atoms_spec (ws := wsX7_thrown) B.pre
  have hown : s.vm.findClass RX7 = some m.cls := findClass_of_methodNamed B.named
  have hlocks := B.notSynchronized
  have hl := lv_entry ([.ref M]) (n := 1) (Nat.le_of_ble_eq_true rfl)
  rw [lg_entry_eq]
  generalize (lg_sl ([.ref M]) ++ List.replicate (1 - (lg_sl ([.ref M])).length) Slot.unset).toArray = ls at hl ⊢
  have hl : lv_has ls 1 [(0, .ref M)] := hl
  have hM : MR D cA A M ad σ s.heap := hI
  have h7 : ∀ w ∈ wsX70, w ∈ wsX7_thrown := fun _ h => List.mem_cons_of_mem _ (List.mem_append_right _ h)
  refine lv_aload_n hx hb dX7_thrown_0 rfl (lv_at hl 0 rfl) ?_
  refine m_get (v := .int (σ.1 25)) hx hb hts h7 hown hK hM 25 (by decide) (hts (.fieldLink RX7 60 "ConfigBeaconModel" "thrown" "I") (by decide +kernel)) rfl dX7_thrown_1 ?_
  exact xr_iret hx hb hr hlocks rfl dX7_thrown_4
set_option maxHeartbeats 4000000 in
set_option maxRecDepth 100000 in
theorem c_X7_goes (l : Launch) (D : va_G) (cA : Nat → ClassId) (A : Nat → Prop) (M : Nat) (ad : Nat → Nat) (σ : MS) (w : Int32) : Met l yX7_goes wsX7_goes (rmK 0 0 0) (xP D cA [.ref M, .int w] (MR D cA A M ad σ)) (xW (xV (some (.int (bI (gz w)))) (MR D cA A M ad (sg σ 25 w))) A) 0 0 A := by
  refine Met.ofW (cc := cX7_goes) (maxL := 2) (ret := (some .boolean)) (by decide) rfl ?_
  intro p e s m args below meth c s₁ B hml hv
  obtain ⟨rfl, hK, hI⟩ := hv
  have hx := B.exec
  have hb := B.bytes
  have hr := B.returns
  have hts := atoms_spec (ws := wsX7_goes) B.pre
  have hown : s.vm.findClass RX7 = some m.cls := findClass_of_methodNamed B.named
  have hlocks := B.notSynchronized
  have hl := lv_entry ([.ref M, .int w]) (n := 2) (Nat.le_of_ble_eq_true rfl)
  rw [lg_entry_eq]
  generalize (lg_sl ([.ref M, .int w]) ++ List.replicate (2 - (lg_sl ([.ref M, .int w])).length) Slot.unset).toArray = ls at hl ⊢
  have hl : lv_has ls 2 [(0, .ref M), (1, .int w)] := hl
  have hM : MR D cA A M ad σ s.heap := hI
  have h7 : ∀ w ∈ wsX70, w ∈ wsX7_goes := fun _ h => List.mem_cons_of_mem _ (List.mem_append_right _ h)
  have hS : va_S A s.heap s.heap [] := va_S.rf
  refine lv_aload_n hx hb dX7_goes_0 rfl (lv_at hl 0 rfl) ?_
  refine lv_iload_n hx hb dX7_goes_1 rfl (lv_at hl 1 rfl) ?_
  refine m_put hx hb hts h7 hown hK hM hS 25 (by decide) (by decide) (hts (.fieldLink RX7 60 "ConfigBeaconModel" "thrown" "I") (by decide +kernel)) rfl rfl dX7_goes_2 (fun H locs hM hS => ?_)
  refine lv_iload_n hx hb dX7_goes_5 rfl (lv_at hl 1 rfl) ?_
  refine lv_if_ne (tgt := 13) hx hb dX7_goes_6 (by decide) (fun c_1 => ?_) (fun c_1 => ?_)
  · refine lv_iconst (v := 0) hx hb dX7_goes_13 (by decide) ?_
    exact xw_zret hx hb hr hlocks (by first | (simp [gz, bI, c_1]; done) | (simp_all [gz, bI]; done) | (simp [gz, bI, c_1]; omega)) hS ⟨rfl, hM⟩ (Nat.le_refl _) (Nat.le_refl _) dX7_goes_14
  · refine lv_iconst (v := 1) hx hb dX7_goes_9 (by decide) ?_
    refine lv_goto (tgt := 14) hx hb dX7_goes_10 (by decide) ?_
    exact xw_zret hx hb hr hlocks (by first | (simp [gz, bI, c_1]; done) | (simp_all [gz, bI]; done) | (simp [gz, bI, c_1]; omega)) hS ⟨rfl, hM⟩ (Nat.le_refl _) (Nat.le_refl _) dX7_goes_14
set_option maxHeartbeats 4000000 in
set_option maxRecDepth 100000 in
theorem c_X7_entry (l : Launch) (D : va_G) (cA : Nat → ClassId) (b : Int32) (f : Int32) (s2 : Int32) : Met l yX7_entry wsX7_entry (rmK 0 0 0) (xP D cA [.int b, .int f, .int s2] (fun _ => True)) (xR (some (.int (enc b f s2)))) 0 0 (fun _ => False) := by
  refine Met.ofW (cc := cX7_entry) (maxL := 3) (ret := (some .int)) (by decide) rfl ?_
  intro p e s m args below meth c s₁ B hml hv
  obtain ⟨rfl, hK, hI⟩ := hv
  have hx := B.exec
  have hb := B.bytes
  have hr := B.returns
  have hts := atoms_spec (ws := wsX7_entry) B.pre
  have hown : s.vm.findClass RX7 = some m.cls := findClass_of_methodNamed B.named
  have hlocks := B.notSynchronized
  have hl := lv_entry ([.int b, .int f, .int s2]) (n := 3) (Nat.le_of_ble_eq_true rfl)
  rw [lg_entry_eq]
  generalize (lg_sl ([.int b, .int f, .int s2]) ++ List.replicate (3 - (lg_sl ([.int b, .int f, .int s2])).length) Slot.unset).toArray = ls at hl ⊢
  have hl : lv_has ls 3 [(0, .int b), (1, .int f), (2, .int s2)] := hl
  refine lv_iconst (v := 1) hx hb dX7_entry_0 (by decide) ?_
  refine lv_iload_n hx hb dX7_entry_1 rfl (lv_at hl 0 rfl) ?_
  refine lv_iadd hx hb dX7_entry_2 ?_
  refine lv_sipush (v := 9999) hx hb dX7_entry_3 (by decide) ?_
  refine lv_iadd hx hb dX7_entry_6 ?_
  refine lv_sipush (v := 20000) hx hb dX7_entry_7 (by decide) ?_
  refine lv_iload_n hx hb dX7_entry_10 rfl (lv_at hl 1 rfl) ?_
  refine lv_iconst (v := 1) hx hb dX7_entry_11 (by decide) ?_
  refine lv_iadd hx hb dX7_entry_12 ?_
  refine lv_bipush (v := 17) hx hb dX7_entry_13 (by decide) ?_
  refine lv_iload_n hx hb dX7_entry_15 rfl (lv_at hl 2 rfl) ?_
  refine lv_iconst (v := 1) hx hb dX7_entry_16 (by decide) ?_
  refine lv_iadd hx hb dX7_entry_17 ?_
  refine lv_imul hx hb dX7_entry_18 ?_
  refine lv_iadd hx hb dX7_entry_19 ?_
  refine lv_imul hx hb dX7_entry_20 ?_
  refine lv_iadd hx hb dX7_entry_21 ?_
  exact xr_iret hx hb hr hlocks rfl dX7_entry_22
set_option maxHeartbeats 4000000 in
set_option maxRecDepth 100000 in
theorem c_X7_baseOf (l : Launch) (D : va_G) (cA : Nat → ClassId) (e9 : Int32) : Met l yX7_baseOf wsX7_baseOf (rmK 0 0 0) (xP D cA [.int e9] (fun _ => True)) (xR (some (.int (dB e9)))) 0 0 (fun _ => False) := by
  refine Met.ofW (cc := cX7_baseOf) (maxL := 1) (ret := (some .int)) (by decide) rfl ?_
  intro p e s m args below meth c s₁ B hml hv
  obtain ⟨rfl, hK, hI⟩ := hv
  have hx := B.exec
  have hb := B.bytes
  have hr := B.returns
  have hts := atoms_spec (ws := wsX7_baseOf) B.pre
  have hown : s.vm.findClass RX7 = some m.cls := findClass_of_methodNamed B.named
  have hlocks := B.notSynchronized
  have hl := lv_entry ([.int e9]) (n := 1) (Nat.le_of_ble_eq_true rfl)
  rw [lg_entry_eq]
  generalize (lg_sl ([.int e9]) ++ List.replicate (1 - (lg_sl ([.int e9])).length) Slot.unset).toArray = ls at hl ⊢
  have hl : lv_has ls 1 [(0, .int e9)] := hl
  refine lv_iload_n hx hb dX7_baseOf_0 rfl (lv_at hl 0 rfl) ?_
  refine lv_iconst (v := 1) hx hb dX7_baseOf_1 (by decide) ?_
  refine lv_isub hx hb dX7_baseOf_2 ?_
  refine lv_sipush (v := 20000) hx hb dX7_baseOf_3 (by decide) ?_
  refine lv_irem hx hb dX7_baseOf_6 (by decide) ?_
  refine lv_sipush (v := 9999) hx hb dX7_baseOf_7 (by decide) ?_
  refine lv_isub hx hb dX7_baseOf_10 ?_
  exact xr_iret hx hb hr hlocks rfl dX7_baseOf_11
set_option maxHeartbeats 4000000 in
set_option maxRecDepth 100000 in
theorem c_X7_firstOf (l : Launch) (D : va_G) (cA : Nat → ClassId) (e9 : Int32) : Met l yX7_firstOf wsX7_firstOf (rmK 0 0 0) (xP D cA [.int e9] (fun _ => True)) (xR (some (.int (dF e9)))) 0 0 (fun _ => False) := by
  refine Met.ofW (cc := cX7_firstOf) (maxL := 1) (ret := (some .int)) (by decide) rfl ?_
  intro p e s m args below meth c s₁ B hml hv
  obtain ⟨rfl, hK, hI⟩ := hv
  have hx := B.exec
  have hb := B.bytes
  have hr := B.returns
  have hts := atoms_spec (ws := wsX7_firstOf) B.pre
  have hown : s.vm.findClass RX7 = some m.cls := findClass_of_methodNamed B.named
  have hlocks := B.notSynchronized
  have hl := lv_entry ([.int e9]) (n := 1) (Nat.le_of_ble_eq_true rfl)
  rw [lg_entry_eq]
  generalize (lg_sl ([.int e9]) ++ List.replicate (1 - (lg_sl ([.int e9])).length) Slot.unset).toArray = ls at hl ⊢
  have hl : lv_has ls 1 [(0, .int e9)] := hl
  refine lv_iload_n hx hb dX7_firstOf_0 rfl (lv_at hl 0 rfl) ?_
  refine lv_iconst (v := 1) hx hb dX7_firstOf_1 (by decide) ?_
  refine lv_isub hx hb dX7_firstOf_2 ?_
  refine lv_sipush (v := 20000) hx hb dX7_firstOf_3 (by decide) ?_
  refine lv_idiv hx hb dX7_firstOf_6 (by decide) ?_
  refine lv_bipush (v := 17) hx hb dX7_firstOf_7 (by decide) ?_
  refine lv_irem hx hb dX7_firstOf_9 (by decide) ?_
  refine lv_iconst (v := 1) hx hb dX7_firstOf_10 (by decide) ?_
  refine lv_isub hx hb dX7_firstOf_11 ?_
  exact xr_iret hx hb hr hlocks rfl dX7_firstOf_12
set_option maxHeartbeats 4000000 in
set_option maxRecDepth 100000 in
theorem c_X7_secondOf (l : Launch) (D : va_G) (cA : Nat → ClassId) (e9 : Int32) : Met l yX7_secondOf wsX7_secondOf (rmK 0 0 0) (xP D cA [.int e9] (fun _ => True)) (xR (some (.int (dS e9)))) 0 0 (fun _ => False) := by
  refine Met.ofW (cc := cX7_secondOf) (maxL := 1) (ret := (some .int)) (by decide) rfl ?_
  intro p e s m args below meth c s₁ B hml hv
  obtain ⟨rfl, hK, hI⟩ := hv
  have hx := B.exec
  have hb := B.bytes
  have hr := B.returns
  have hts := atoms_spec (ws := wsX7_secondOf) B.pre
  have hown : s.vm.findClass RX7 = some m.cls := findClass_of_methodNamed B.named
  have hlocks := B.notSynchronized
  have hl := lv_entry ([.int e9]) (n := 1) (Nat.le_of_ble_eq_true rfl)
  rw [lg_entry_eq]
  generalize (lg_sl ([.int e9]) ++ List.replicate (1 - (lg_sl ([.int e9])).length) Slot.unset).toArray = ls at hl ⊢
  have hl : lv_has ls 1 [(0, .int e9)] := hl
  refine lv_iload_n hx hb dX7_secondOf_0 rfl (lv_at hl 0 rfl) ?_
  refine lv_iconst (v := 1) hx hb dX7_secondOf_1 (by decide) ?_
  refine lv_isub hx hb dX7_secondOf_2 ?_
  refine lv_sipush (v := 20000) hx hb dX7_secondOf_3 (by decide) ?_
  refine lv_idiv hx hb dX7_secondOf_6 (by decide) ?_
  refine lv_bipush (v := 17) hx hb dX7_secondOf_7 (by decide) ?_
  refine lv_idiv hx hb dX7_secondOf_9 (by decide) ?_
  refine lv_iconst (v := 1) hx hb dX7_secondOf_10 (by decide) ?_
  refine lv_isub hx hb dX7_secondOf_11 ?_
  exact xr_iret hx hb hr hlocks rfl dX7_secondOf_12
set_option maxHeartbeats 4000000 in
set_option maxRecDepth 100000 in
theorem c_X7_cell (l : Launch) (D : va_G) (cA : Nat → ClassId) (a : Nat) (b : Nat) : Met l yX7_cell wsX7_cell (rmK 0 0 0) (xP D cA [.int (nI a), .int (nI b)] (fun _ => True)) (xR (some (.int (nI (16 * a + b))))) 0 0 (fun _ => False) := by
  refine Met.ofW (cc := cX7_cell) (maxL := 2) (ret := (some .int)) (by decide) rfl ?_
  intro p e s m args below meth c s₁ B hml hv
  obtain ⟨rfl, hK, hI⟩ := hv
  have hx := B.exec
  have hb := B.bytes
  have hr := B.returns
  have hts := atoms_spec (ws := wsX7_cell) B.pre
  have hown : s.vm.findClass RX7 = some m.cls := findClass_of_methodNamed B.named
  have hlocks := B.notSynchronized
  have hl := lv_entry ([.int (nI a), .int (nI b)]) (n := 2) (Nat.le_of_ble_eq_true rfl)
  rw [lg_entry_eq]
  generalize (lg_sl ([.int (nI a), .int (nI b)]) ++ List.replicate (2 - (lg_sl ([.int (nI a), .int (nI b)])).length) Slot.unset).toArray = ls at hl ⊢
  have hl : lv_has ls 2 [(0, .int (nI a)), (1, .int (nI b))] := hl
  refine lv_bipush (v := 16) hx hb dX7_cell_0 (by decide) ?_
  refine lv_iload_n hx hb dX7_cell_2 rfl (lv_at hl 0 rfl) ?_
  refine xe_imul hx hb (pk_mul 16 a) dX7_cell_3 ?_
  refine lv_iload_n hx hb dX7_cell_4 rfl (lv_at hl 1 rfl) ?_
  refine xe_iadd hx hb (nI_add (16 * a) b) dX7_cell_5 ?_
  exact xr_iret hx hb hr hlocks rfl dX7_cell_6
set_option maxHeartbeats 4000000 in
set_option maxRecDepth 100000 in
theorem c_X7_areSettings (l : Launch) (D : va_G) (cA : Nat → ClassId) (f : Int32) (s2 : Int32) : Met l yX7_areSettings wsX7_areSettings (rmK 2 0 0) (xP D cA [.int f, .int s2] (fun _ => True)) (xR (some (.int (bI (okT f s2))))) 0 0 (fun _ => False) := by
  refine Met.ofW (cc := cX7_areSettings) (maxL := 2) (ret := (some .boolean)) (by decide) rfl ?_
  intro p e s m args below meth c s₁ B hml hv
  obtain ⟨rfl, hK, hI⟩ := hv
  have hx := B.exec
  have hb := B.bytes
  have hr := B.returns
  have hts := atoms_spec (ws := wsX7_areSettings) B.pre
  have hown : s.vm.findClass RX7 = some m.cls := findClass_of_methodNamed B.named
  have hlocks := B.notSynchronized
  have hl := lv_entry ([.int f, .int s2]) (n := 2) (Nat.le_of_ble_eq_true rfl)
  rw [lg_entry_eq]
  generalize (lg_sl ([.int f, .int s2]) ++ List.replicate (2 - (lg_sl ([.int f, .int s2])).length) Slot.unset).toArray = ls at hl ⊢
  have hl : lv_has ls 2 [(0, .int f), (1, .int s2)] := hl
  refine lv_iload_n hx hb dX7_areSettings_0 rfl (lv_at hl 0 rfl) ?_
  refine xr_call (va_runS (As := [.int f]) (rest := []) ⟨hx, hb, hml, hown, hts⟩ (c_X7_isSetting l D cA f) (va_cwS 1 hts gX7_areSettings_X7_isSetting rfl rfl rfl (by decide +kernel) ⟨Nat.le_of_ble_eq_true rfl, Nat.le_of_ble_eq_true rfl⟩) (xPS hK trivial) rfl rfl hl.1 rfl (lv_room (Nat.le_of_ble_eq_true rfl)) dX7_areSettings_1 ⟨Nat.le_of_ble_eq_true rfl, Nat.le_of_ble_eq_true rfl⟩) ?_
  refine xb_eq (tgt := 23) hx hb dX7_areSettings_4 (by decide) (fun c_1 => ?_) (fun c_1 => ?_)
  · refine lv_iconst (v := 0) hx hb dX7_areSettings_23 (by decide) ?_
    exact xr_zret hx hb hr hlocks (by first | (simp [okT, bI, c_1]; done) | (simp_all [okT, bI]; done) | (simp [okT, bI, c_1]; omega)) dX7_areSettings_24
  · obtain ⟨j_f, hj_f, rfl⟩ := okS_of c_1
    refine lv_iload_n hx hb dX7_areSettings_7 rfl (lv_at hl 1 rfl) ?_
    refine lv_iconst (v := (-1)) hx hb dX7_areSettings_8 (by decide) ?_
    refine lv_icmp_eq (tgt := 19) hx hb dX7_areSettings_9 (by decide) (fun c_2 => ?_) (fun c_2 => ?_)
    · refine lv_iconst (v := 1) hx hb dX7_areSettings_19 (by decide) ?_
      refine lv_goto (tgt := 24) hx hb dX7_areSettings_20 (by decide) ?_
      exact xr_zret hx hb hr hlocks (by first | (simp [okT, bI, c_1, c_2]; done) | (simp_all [okT, bI]; done) | (simp [okT, bI, c_1, c_2]; omega)) dX7_areSettings_24
    · refine lv_iload_n hx hb dX7_areSettings_12 rfl (lv_at hl 1 rfl) ?_
      refine xr_call (va_runS (As := [.int s2]) (rest := []) ⟨hx, hb, hml, hown, hts⟩ (c_X7_isSetting l D cA s2) (va_cwS 1 hts gX7_areSettings_X7_isSetting rfl rfl rfl (by decide +kernel) ⟨Nat.le_of_ble_eq_true rfl, Nat.le_of_ble_eq_true rfl⟩) (xPS hK trivial) rfl rfl hl.1 rfl (lv_room (Nat.le_of_ble_eq_true rfl)) dX7_areSettings_13 ⟨Nat.le_of_ble_eq_true rfl, Nat.le_of_ble_eq_true rfl⟩) ?_
      refine xb_eq (tgt := 23) hx hb dX7_areSettings_16 (by decide) (fun c_3 => ?_) (fun c_3 => ?_)
      · refine lv_iconst (v := 0) hx hb dX7_areSettings_23 (by decide) ?_
        exact xr_zret hx hb hr hlocks (by first | (simp [okT, bI, c_1, c_2, c_3]; done) | (simp_all [okT, bI]; done) | (simp [okT, bI, c_1, c_2, c_3]; omega)) dX7_areSettings_24
      · obtain ⟨j_s2, hj_s2, rfl⟩ := okS_of c_3
        refine lv_iconst (v := 1) hx hb dX7_areSettings_19 (by decide) ?_
        refine lv_goto (tgt := 24) hx hb dX7_areSettings_20 (by decide) ?_
        exact xr_zret hx hb hr hlocks (by first | (simp [okT, bI, c_1, c_2, c_3]; done) | (simp_all [okT, bI]; done) | (simp [okT, bI, c_1, c_2, c_3]; omega)) dX7_areSettings_24
set_option maxHeartbeats 4000000 in
set_option maxRecDepth 100000 in
theorem c_X7_bucket (l : Launch) (D : va_G) (cA : Nat → ClassId) (c9 : Nat) (k : Nat) (hc : c9 < 12) (hk : k < 128) : Met l yX7_bucket wsX7_bucket (rmK 0 0 0) (xP D cA [.int (nI c9), .int (nI k)] (fun _ => True)) (xR (some (.int (nI (bk c9 (k / 16) (k % 16)))))) 0 0 (fun _ => False) := by
  refine Met.ofW (cc := cX7_bucket) (maxL := 2) (ret := (some .int)) (by decide) rfl ?_
  intro p e s m args below meth c s₁ B hml hv
  obtain ⟨rfl, hK, hI⟩ := hv
  have hx := B.exec
  have hb := B.bytes
  have hr := B.returns
  have hts := atoms_spec (ws := wsX7_bucket) B.pre
  have hown : s.vm.findClass RX7 = some m.cls := findClass_of_methodNamed B.named
  have hlocks := B.notSynchronized
  have hl := lv_entry ([.int (nI c9), .int (nI k)]) (n := 2) (Nat.le_of_ble_eq_true rfl)
  rw [lg_entry_eq]
  generalize (lg_sl ([.int (nI c9), .int (nI k)]) ++ List.replicate (2 - (lg_sl ([.int (nI c9), .int (nI k)])).length) Slot.unset).toArray = ls at hl ⊢
  have hl : lv_has ls 2 [(0, .int (nI c9)), (1, .int (nI k))] := hl
  refine lv_bipush (v := 31) hx hb dX7_bucket_0 (by decide) ?_
  refine lv_iload_n hx hb dX7_bucket_2 rfl (lv_at hl 0 rfl) ?_
  refine xe_imul hx hb (pk_mul 31 c9) dX7_bucket_3 ?_
  refine lv_bipush (v := 17) hx hb dX7_bucket_4 (by decide) ?_
  refine lv_iload_n hx hb dX7_bucket_6 rfl (lv_at hl 1 rfl) ?_
  refine lv_bipush (v := 16) hx hb dX7_bucket_7 (by decide) ?_
  refine xe_irem hx hb (by decide) (pk_rem (a := k) (d := 16) (by omega) (by omega) (by omega)) dX7_bucket_9 ?_
  refine xe_imul hx hb (pk_mul 17 (k % 16)) dX7_bucket_10 ?_
  refine xe_iadd hx hb (nI_add (31 * c9) (17 * (k % 16))) dX7_bucket_11 ?_
  refine lv_bipush (v := 7) hx hb dX7_bucket_12 (by decide) ?_
  refine lv_iload_n hx hb dX7_bucket_14 rfl (lv_at hl 1 rfl) ?_
  refine lv_bipush (v := 16) hx hb dX7_bucket_15 (by decide) ?_
  refine xe_idiv hx hb (by decide) (pk_div (a := k) (d := 16) (by omega) (by omega) (by omega)) dX7_bucket_17 ?_
  refine xe_imul hx hb (pk_mul 7 (k / 16)) dX7_bucket_18 ?_
  refine xe_iadd hx hb (nI_add ((31 * c9) + (17 * (k % 16))) (7 * (k / 16))) dX7_bucket_19 ?_
  refine lv_bipush (v := 100) hx hb dX7_bucket_20 (by decide) ?_
  refine xe_irem hx hb (by decide) (pk_rem (a := (((31 * c9) + (17 * (k % 16))) + (7 * (k / 16)))) (d := 100) (by omega) (by omega) (by omega)) dX7_bucket_22 ?_
  exact xr_iret hx hb hr hlocks rfl dX7_bucket_23
set_option maxHeartbeats 4000000 in
set_option maxRecDepth 100000 in
theorem c_X7_isAhead (l : Launch) (D : va_G) (cA : Nat → ClassId) (A : Nat → Prop) (M : Nat) (ad : Nat → Nat) (σ : MS) (a : Nat) (b : Nat) (ha8 : a < 8) (hb8 : b < 8) : Met l yX7_isAhead wsX7_isAhead (rmK 0 0 0) (xP D cA [.ref M, .int (nI a), .int (nI b)] (MR D cA A M ad σ)) (xR (some (.int (bI (ahd (σ.2.1 3) a b))))) 0 0 (fun _ => False) := by
  refine Met.ofW (cc := cX7_isAhead) (maxL := 3) (ret := (some .boolean)) (by decide) rfl ?_
  intro p e s m args below meth c s₁ B hml hv
  obtain ⟨rfl, hK, hI⟩ := hv
  have hx := B.exec
  have hb := B.bytes
  have hr := B.returns
  have hts := atoms_spec (ws := wsX7_isAhead) B.pre
  have hown : s.vm.findClass RX7 = some m.cls := findClass_of_methodNamed B.named
  have hlocks := B.notSynchronized
  have hl := lv_entry ([.ref M, .int (nI a), .int (nI b)]) (n := 3) (Nat.le_of_ble_eq_true rfl)
  rw [lg_entry_eq]
  generalize (lg_sl ([.ref M, .int (nI a), .int (nI b)]) ++ List.replicate (3 - (lg_sl ([.ref M, .int (nI a), .int (nI b)])).length) Slot.unset).toArray = ls at hl ⊢
  have hl : lv_has ls 3 [(0, .ref M), (1, .int (nI a)), (2, .int (nI b))] := hl
  have hM : MR D cA A M ad σ s.heap := hI
  have h7 : ∀ w ∈ wsX70, w ∈ wsX7_isAhead := fun _ h => List.mem_cons_of_mem _ (List.mem_append_right _ h)
  refine lv_aload_n hx hb dX7_isAhead_0 rfl (lv_at hl 0 rfl) ?_
  refine m_get (v := .ref (ad 3)) hx hb hts h7 hown hK hM 3 (by decide) (hts (.fieldLink RX7 16 "ConfigBeaconModel" "precedences" "[I") (by decide +kernel)) rfl dX7_isAhead_1 ?_
  refine lv_iload_n hx hb dX7_isAhead_4 rfl (lv_at hl 1 rfl) ?_
  refine m_ald hx hb hK hM 3 (by decide) (n := 8) rfl a rfl (by omega) (by decide) dX7_isAhead_5 (v := (σ.2.1 3 a)) rfl ?_
  refine lv_aload_n hx hb dX7_isAhead_6 rfl (lv_at hl 0 rfl) ?_
  refine m_get (v := .ref (ad 3)) hx hb hts h7 hown hK hM 3 (by decide) (hts (.fieldLink RX7 16 "ConfigBeaconModel" "precedences" "[I") (by decide +kernel)) rfl dX7_isAhead_7 ?_
  refine lv_iload_n hx hb dX7_isAhead_10 rfl (lv_at hl 2 rfl) ?_
  refine m_ald hx hb hK hM 3 (by decide) (n := 8) rfl b rfl (by omega) (by decide) dX7_isAhead_11 (v := (σ.2.1 3 b)) rfl ?_
  refine lv_icmp_gt (tgt := 35) hx hb dX7_isAhead_12 (by decide) (fun c_1 => ?_) (fun c_1 => ?_)
  · refine lv_iconst (v := 1) hx hb dX7_isAhead_35 (by decide) ?_
    refine lv_goto (tgt := 40) hx hb dX7_isAhead_36 (by decide) ?_
    exact xr_zret hx hb hr hlocks (by first | (simp [ahd, bI, c_1, Int32.not_le.mpr c_1]; done) | (simp_all [ahd, bI]; done) | (simp [ahd, bI, c_1, Int32.not_le.mpr c_1]; omega)) dX7_isAhead_40
  · refine lv_aload_n hx hb dX7_isAhead_15 rfl (lv_at hl 0 rfl) ?_
    refine m_get (v := .ref (ad 3)) hx hb hts h7 hown hK hM 3 (by decide) (hts (.fieldLink RX7 16 "ConfigBeaconModel" "precedences" "[I") (by decide +kernel)) rfl dX7_isAhead_16 ?_
    refine lv_iload_n hx hb dX7_isAhead_19 rfl (lv_at hl 1 rfl) ?_
    refine m_ald hx hb hK hM 3 (by decide) (n := 8) rfl a rfl (by omega) (by decide) dX7_isAhead_20 (v := (σ.2.1 3 a)) rfl ?_
    refine lv_aload_n hx hb dX7_isAhead_21 rfl (lv_at hl 0 rfl) ?_
    refine m_get (v := .ref (ad 3)) hx hb hts h7 hown hK hM 3 (by decide) (hts (.fieldLink RX7 16 "ConfigBeaconModel" "precedences" "[I") (by decide +kernel)) rfl dX7_isAhead_22 ?_
    refine lv_iload_n hx hb dX7_isAhead_25 rfl (lv_at hl 2 rfl) ?_
    refine m_ald hx hb hK hM 3 (by decide) (n := 8) rfl b rfl (by omega) (by decide) dX7_isAhead_26 (v := (σ.2.1 3 b)) rfl ?_
    refine lv_icmp_ne (tgt := 39) hx hb dX7_isAhead_27 (by decide) (fun c_2 => ?_) (fun c_2 => ?_)
    · refine lv_iconst (v := 0) hx hb dX7_isAhead_39 (by decide) ?_
      exact xr_zret hx hb hr hlocks (by first | (simp [ahd, bI, c_1, Int32.not_lt.mp c_1, c_2]; done) | (simp_all [ahd, bI]; done) | (simp [ahd, bI, c_1, Int32.not_lt.mp c_1, c_2]; omega)) dX7_isAhead_40
    · refine lv_iload_n hx hb dX7_isAhead_30 rfl (lv_at hl 1 rfl) ?_
      refine lv_iload_n hx hb dX7_isAhead_31 rfl (lv_at hl 2 rfl) ?_
      refine lv_icmp_le (tgt := 39) hx hb dX7_isAhead_32 (by decide) (fun c_3 => ?_) (fun c_3 => ?_)
      · have n_3 : a ≤ b := (nI_leI (a := a) (b := b) (by omega) (by omega)).mp c_3
        refine lv_iconst (v := 0) hx hb dX7_isAhead_39 (by decide) ?_
        exact xr_zret hx hb hr hlocks (by first | (simp [ahd, bI, c_1, Int32.not_lt.mp c_1, c_2, c_3, n_3, Int32.not_lt.mpr c_3]; done) | (simp_all [ahd, bI]; done) | (simp [ahd, bI, c_1, Int32.not_lt.mp c_1, c_2, c_3, n_3, Int32.not_lt.mpr c_3]; omega)) dX7_isAhead_40
      · have n_3 : b < a := Nat.not_le.mp (fun q => c_3 ((nI_leI (a := a) (b := b) (by omega) (by omega)).mpr q))
        refine lv_iconst (v := 1) hx hb dX7_isAhead_35 (by decide) ?_
        refine lv_goto (tgt := 40) hx hb dX7_isAhead_36 (by decide) ?_
        exact xr_zret hx hb hr hlocks (by first | (simp [ahd, bI, c_1, Int32.not_lt.mp c_1, c_2, c_3, n_3, Int32.not_le.mp c_3]; done) | (simp_all [ahd, bI]; done) | (simp [ahd, bI, c_1, Int32.not_lt.mp c_1, c_2, c_3, n_3, Int32.not_le.mp c_3]; omega)) dX7_isAhead_40
set_option maxHeartbeats 4000000 in
set_option maxRecDepth 100000 in
theorem c_X7_isFor (l : Launch) (D : va_G) (cA : Nat → ClassId) (A : Nat → Prop) (M : Nat) (ad : Nat → Nat) (σ : MS) (a : Nat) (c9 : Nat) (ha8 : a < 8) (hc8 : c9 < 12) : Met l yX7_isFor wsX7_isFor (rmK 0 0 0) (xP D cA [.ref M, .int (nI a), .int (nI c9)] (MR D cA A M ad σ)) (xR (some (.int (bI (forF σ.2.1 a c9))))) 0 0 (fun _ => False) := by
  refine Met.ofW (cc := cX7_isFor) (maxL := 4) (ret := (some .boolean)) (by decide) rfl ?_
  intro p e s m args below meth c s₁ B hml hv
  obtain ⟨rfl, hK, hI⟩ := hv
  have hx := B.exec
  have hb := B.bytes
  have hr := B.returns
  have hts := atoms_spec (ws := wsX7_isFor) B.pre
  have hown : s.vm.findClass RX7 = some m.cls := findClass_of_methodNamed B.named
  have hlocks := B.notSynchronized
  have hl := lv_entry ([.ref M, .int (nI a), .int (nI c9)]) (n := 4) (Nat.le_of_ble_eq_true rfl)
  rw [lg_entry_eq]
  generalize (lg_sl ([.ref M, .int (nI a), .int (nI c9)]) ++ List.replicate (4 - (lg_sl ([.ref M, .int (nI a), .int (nI c9)])).length) Slot.unset).toArray = ls at hl ⊢
  have hl : lv_has ls 4 [(0, .ref M), (1, .int (nI a)), (2, .int (nI c9))] := hl
  have hM : MR D cA A M ad σ s.heap := hI
  have h7 : ∀ w ∈ wsX70, w ∈ wsX7_isFor := fun _ h => List.mem_cons_of_mem _ (List.mem_append_right _ h)
  refine lv_aload_n hx hb dX7_isFor_0 rfl (lv_at hl 0 rfl) ?_
  refine m_get (v := .ref (ad 4)) hx hb hts h7 hown hK hM 4 (by decide) (hts (.fieldLink RX7 19 "ConfigBeaconModel" "selectors" "[I") (by decide +kernel)) rfl dX7_isFor_1 ?_
  refine lv_iload_n hx hb dX7_isFor_4 rfl (lv_at hl 1 rfl) ?_
  refine m_ald hx hb hK hM 4 (by decide) (n := 8) rfl a rfl (by omega) (by decide) dX7_isFor_5 (v := (σ.2.1 4 a)) rfl ?_
  refine lv_iconst (v := 1) hx hb dX7_isFor_6 (by decide) ?_
  refine lv_icmp_ne (tgt := 19) hx hb dX7_isFor_7 (by decide) (fun c_1 => ?_) (fun c_1 => ?_)
  · refine lv_aload_n hx hb dX7_isFor_19 rfl (lv_at hl 0 rfl) ?_
    refine m_get (v := .ref (ad 4)) hx hb hts h7 hown hK hM 4 (by decide) (hts (.fieldLink RX7 19 "ConfigBeaconModel" "selectors" "[I") (by decide +kernel)) rfl dX7_isFor_20 ?_
    refine lv_iload_n hx hb dX7_isFor_23 rfl (lv_at hl 1 rfl) ?_
    refine m_ald hx hb hK hM 4 (by decide) (n := 8) rfl a rfl (by omega) (by decide) dX7_isFor_24 (v := (σ.2.1 4 a)) rfl ?_
    refine lv_iconst (v := 2) hx hb dX7_isFor_25 (by decide) ?_
    refine lv_icmp_ne (tgt := 38) hx hb dX7_isFor_26 (by decide) (fun c_2 => ?_) (fun c_2 => ?_)
    · refine lv_iload_n hx hb dX7_isFor_38 rfl (lv_at hl 2 rfl) ?_
      refine lv_istore_n (lv' := [(3, .int (nI c9)), (0, .ref M), (1, .int (nI a)), (2, .int (nI c9))]) hx hb dX7_isFor_39 rfl hl (by decide) rfl (fun ls hl => ?_)
      refine lv_aload_n hx hb dX7_isFor_40 rfl (lv_at hl 1 rfl) ?_
      refine m_get (v := .ref (ad 4)) hx hb hts h7 hown hK hM 4 (by decide) (hts (.fieldLink RX7 19 "ConfigBeaconModel" "selectors" "[I") (by decide +kernel)) rfl dX7_isFor_41 ?_
      refine lv_iload_n hx hb dX7_isFor_44 rfl (lv_at hl 2 rfl) ?_
      refine m_ald hx hb hK hM 4 (by decide) (n := 8) rfl a rfl (by omega) (by decide) dX7_isFor_45 (v := (σ.2.1 4 a)) rfl ?_
      refine lv_if_eq (tgt := 59) hx hb dX7_isFor_46 (by decide) (fun c_3 => ?_) (fun c_3 => ?_)
      · refine lv_iconst (v := 1) hx hb dX7_isFor_59 (by decide) ?_
        refine lv_goto (tgt := 64) hx hb dX7_isFor_60 (by decide) ?_
        exact xr_zret hx hb hr hlocks (by first | (simp [forF, bI, c_1, c_2, c_3]; done) | (simp_all [forF, bI]; done) | (simp [forF, bI, c_1, c_2, c_3]; omega)) dX7_isFor_64
      · refine lv_iload_n hx hb dX7_isFor_49 rfl (lv_at hl 0 rfl) ?_
        refine lv_aload_n hx hb dX7_isFor_50 rfl (lv_at hl 1 rfl) ?_
        refine m_get (v := .ref (ad 5)) hx hb hts h7 hown hK hM 5 (by decide) (hts (.fieldLink RX7 22 "ConfigBeaconModel" "whiches" "[I") (by decide +kernel)) rfl dX7_isFor_51 ?_
        refine lv_iload_n hx hb dX7_isFor_54 rfl (lv_at hl 2 rfl) ?_
        refine m_ald hx hb hK hM 5 (by decide) (n := 8) rfl a rfl (by omega) (by decide) dX7_isFor_55 (v := (σ.2.1 5 a)) rfl ?_
        refine lv_icmp_ne (tgt := 63) hx hb dX7_isFor_56 (by decide) (fun c_4 => ?_) (fun c_4 => ?_)
        · refine lv_iconst (v := 0) hx hb dX7_isFor_63 (by decide) ?_
          exact xr_zret hx hb hr hlocks (by first | (simp [forF, bI, c_1, c_2, c_3, c_4]; done) | (simp_all [forF, bI]; done) | (simp [forF, bI, c_1, c_2, c_3, c_4]; omega)) dX7_isFor_64
        · refine lv_iconst (v := 1) hx hb dX7_isFor_59 (by decide) ?_
          refine lv_goto (tgt := 64) hx hb dX7_isFor_60 (by decide) ?_
          exact xr_zret hx hb hr hlocks (by first | (simp [forF, bI, c_1, c_2, c_3, c_4]; done) | (simp_all [forF, bI]; done) | (simp [forF, bI, c_1, c_2, c_3, c_4]; omega)) dX7_isFor_64
    · refine lv_aload_n hx hb dX7_isFor_29 rfl (lv_at hl 0 rfl) ?_
      refine m_get (v := .ref (ad 1)) hx hb hts h7 hown hK hM 1 (by decide) (hts (.fieldLink RX7 13 "ConfigBeaconModel" "groups" "[I") (by decide +kernel)) rfl dX7_isFor_30 ?_
      refine lv_iload_n hx hb dX7_isFor_33 rfl (lv_at hl 2 rfl) ?_
      refine m_ald hx hb hK hM 1 (by decide) (n := 12) rfl c9 rfl (by omega) (by decide) dX7_isFor_34 (v := (σ.2.1 1 c9)) rfl ?_
      refine lv_goto (tgt := 39) hx hb dX7_isFor_35 (by decide) ?_
      refine lv_istore_n (lv' := [(3, .int (σ.2.1 1 c9)), (0, .ref M), (1, .int (nI a)), (2, .int (nI c9))]) hx hb dX7_isFor_39 rfl hl (by decide) rfl (fun ls hl => ?_)
      refine lv_aload_n hx hb dX7_isFor_40 rfl (lv_at hl 1 rfl) ?_
      refine m_get (v := .ref (ad 4)) hx hb hts h7 hown hK hM 4 (by decide) (hts (.fieldLink RX7 19 "ConfigBeaconModel" "selectors" "[I") (by decide +kernel)) rfl dX7_isFor_41 ?_
      refine lv_iload_n hx hb dX7_isFor_44 rfl (lv_at hl 2 rfl) ?_
      refine m_ald hx hb hK hM 4 (by decide) (n := 8) rfl a rfl (by omega) (by decide) dX7_isFor_45 (v := (σ.2.1 4 a)) rfl ?_
      refine lv_if_eq (tgt := 59) hx hb dX7_isFor_46 (by decide) (fun c_5 => ?_) (fun c_5 => ?_)
      · refine lv_iconst (v := 1) hx hb dX7_isFor_59 (by decide) ?_
        refine lv_goto (tgt := 64) hx hb dX7_isFor_60 (by decide) ?_
        exact xr_zret hx hb hr hlocks (by first | (simp [forF, bI, c_1, c_2, c_5]; done) | (simp_all [forF, bI]; done) | (simp [forF, bI, c_1, c_2, c_5]; omega)) dX7_isFor_64
      · refine lv_iload_n hx hb dX7_isFor_49 rfl (lv_at hl 0 rfl) ?_
        refine lv_aload_n hx hb dX7_isFor_50 rfl (lv_at hl 1 rfl) ?_
        refine m_get (v := .ref (ad 5)) hx hb hts h7 hown hK hM 5 (by decide) (hts (.fieldLink RX7 22 "ConfigBeaconModel" "whiches" "[I") (by decide +kernel)) rfl dX7_isFor_51 ?_
        refine lv_iload_n hx hb dX7_isFor_54 rfl (lv_at hl 2 rfl) ?_
        refine m_ald hx hb hK hM 5 (by decide) (n := 8) rfl a rfl (by omega) (by decide) dX7_isFor_55 (v := (σ.2.1 5 a)) rfl ?_
        refine lv_icmp_ne (tgt := 63) hx hb dX7_isFor_56 (by decide) (fun c_6 => ?_) (fun c_6 => ?_)
        · refine lv_iconst (v := 0) hx hb dX7_isFor_63 (by decide) ?_
          exact xr_zret hx hb hr hlocks (by first | (simp [forF, bI, c_1, c_2, c_5, c_6]; done) | (simp_all [forF, bI]; done) | (simp [forF, bI, c_1, c_2, c_5, c_6]; omega)) dX7_isFor_64
        · refine lv_iconst (v := 1) hx hb dX7_isFor_59 (by decide) ?_
          refine lv_goto (tgt := 64) hx hb dX7_isFor_60 (by decide) ?_
          exact xr_zret hx hb hr hlocks (by first | (simp [forF, bI, c_1, c_2, c_5, c_6]; done) | (simp_all [forF, bI]; done) | (simp [forF, bI, c_1, c_2, c_5, c_6]; omega)) dX7_isFor_64
  · refine lv_aload_n hx hb dX7_isFor_10 rfl (lv_at hl 0 rfl) ?_
    refine m_get (v := .ref (ad 0)) hx hb hts h7 hown hK hM 0 (by decide) (hts (.fieldLink RX7 7 "ConfigBeaconModel" "regions" "[I") (by decide +kernel)) rfl dX7_isFor_11 ?_
    refine lv_iload_n hx hb dX7_isFor_14 rfl (lv_at hl 2 rfl) ?_
    refine m_ald hx hb hK hM 0 (by decide) (n := 12) rfl c9 rfl (by omega) (by decide) dX7_isFor_15 (v := (σ.2.1 0 c9)) rfl ?_
    refine lv_goto (tgt := 39) hx hb dX7_isFor_16 (by decide) ?_
    refine lv_istore_n (lv' := [(3, .int (σ.2.1 0 c9)), (0, .ref M), (1, .int (nI a)), (2, .int (nI c9))]) hx hb dX7_isFor_39 rfl hl (by decide) rfl (fun ls hl => ?_)
    refine lv_aload_n hx hb dX7_isFor_40 rfl (lv_at hl 1 rfl) ?_
    refine m_get (v := .ref (ad 4)) hx hb hts h7 hown hK hM 4 (by decide) (hts (.fieldLink RX7 19 "ConfigBeaconModel" "selectors" "[I") (by decide +kernel)) rfl dX7_isFor_41 ?_
    refine lv_iload_n hx hb dX7_isFor_44 rfl (lv_at hl 2 rfl) ?_
    refine m_ald hx hb hK hM 4 (by decide) (n := 8) rfl a rfl (by omega) (by decide) dX7_isFor_45 (v := (σ.2.1 4 a)) rfl ?_
    refine lv_if_eq (tgt := 59) hx hb dX7_isFor_46 (by decide) (fun c_7 => ?_) (fun c_7 => ?_)
    · refine lv_iconst (v := 1) hx hb dX7_isFor_59 (by decide) ?_
      refine lv_goto (tgt := 64) hx hb dX7_isFor_60 (by decide) ?_
      exact xr_zret hx hb hr hlocks (by first | (simp [forF, bI, c_1, c_7]; done) | (simp_all [forF, bI]; done) | (simp [forF, bI, c_1, c_7]; omega)) dX7_isFor_64
    · refine lv_iload_n hx hb dX7_isFor_49 rfl (lv_at hl 0 rfl) ?_
      refine lv_aload_n hx hb dX7_isFor_50 rfl (lv_at hl 1 rfl) ?_
      refine m_get (v := .ref (ad 5)) hx hb hts h7 hown hK hM 5 (by decide) (hts (.fieldLink RX7 22 "ConfigBeaconModel" "whiches" "[I") (by decide +kernel)) rfl dX7_isFor_51 ?_
      refine lv_iload_n hx hb dX7_isFor_54 rfl (lv_at hl 2 rfl) ?_
      refine m_ald hx hb hK hM 5 (by decide) (n := 8) rfl a rfl (by omega) (by decide) dX7_isFor_55 (v := (σ.2.1 5 a)) rfl ?_
      refine lv_icmp_ne (tgt := 63) hx hb dX7_isFor_56 (by decide) (fun c_8 => ?_) (fun c_8 => ?_)
      · refine lv_iconst (v := 0) hx hb dX7_isFor_63 (by decide) ?_
        exact xr_zret hx hb hr hlocks (by first | (simp [forF, bI, c_1, c_7, c_8]; done) | (simp_all [forF, bI]; done) | (simp [forF, bI, c_1, c_7, c_8]; omega)) dX7_isFor_64
      · refine lv_iconst (v := 1) hx hb dX7_isFor_59 (by decide) ?_
        refine lv_goto (tgt := 64) hx hb dX7_isFor_60 (by decide) ?_
        exact xr_zret hx hb hr hlocks (by first | (simp [forF, bI, c_1, c_7, c_8]; done) | (simp_all [forF, bI]; done) | (simp [forF, bI, c_1, c_7, c_8]; omega)) dX7_isFor_64
set_option maxHeartbeats 4000000 in
set_option maxRecDepth 100000 in
theorem c_X7_isLockedFor (l : Launch) (D : va_G) (cA : Nat → ClassId) (A : Nat → Prop) (M : Nat) (ad : Nat → Nat) (σ : MS) (k : Nat) (o : Int32) (hk : k < 128) : Met l yX7_isLockedFor wsX7_isLockedFor (rmK 0 0 0) (xP D cA [.ref M, .int (nI k), .int o] (MR D cA A M ad σ)) (xR (some (.int (bI (lckF (σ.2.1 11) k o))))) 0 0 (fun _ => False) := by
  refine Met.ofW (cc := cX7_isLockedFor) (maxL := 4) (ret := (some .boolean)) (by decide) rfl ?_
  intro p e s m args below meth c s₁ B hml hv
  obtain ⟨rfl, hK, hI⟩ := hv
  have hx := B.exec
  have hb := B.bytes
  have hr := B.returns
  have hts := atoms_spec (ws := wsX7_isLockedFor) B.pre
  have hown : s.vm.findClass RX7 = some m.cls := findClass_of_methodNamed B.named
  have hlocks := B.notSynchronized
  have hl := lv_entry ([.ref M, .int (nI k), .int o]) (n := 4) (Nat.le_of_ble_eq_true rfl)
  rw [lg_entry_eq]
  generalize (lg_sl ([.ref M, .int (nI k), .int o]) ++ List.replicate (4 - (lg_sl ([.ref M, .int (nI k), .int o])).length) Slot.unset).toArray = ls at hl ⊢
  have hl : lv_has ls 4 [(0, .ref M), (1, .int (nI k)), (2, .int o)] := hl
  have hM : MR D cA A M ad σ s.heap := hI
  have h7 : ∀ w ∈ wsX70, w ∈ wsX7_isLockedFor := fun _ h => List.mem_cons_of_mem _ (List.mem_append_right _ h)
  refine lv_aload_n hx hb dX7_isLockedFor_0 rfl (lv_at hl 0 rfl) ?_
  refine m_get (v := .ref (ad 11)) hx hb hts h7 hown hK hM 11 (by decide) (hts (.fieldLink RX7 37 "ConfigBeaconModel" "locks" "[I") (by decide +kernel)) rfl dX7_isLockedFor_1 ?_
  refine lv_sipush (v := 128) hx hb dX7_isLockedFor_4 (by decide) ?_
  refine lv_iload_n hx hb dX7_isLockedFor_7 rfl (lv_at hl 1 rfl) ?_
  refine lv_bipush (v := 16) hx hb dX7_isLockedFor_8 (by decide) ?_
  refine xe_idiv hx hb (by decide) (pk_div (a := k) (d := 16) (by omega) (by omega) (by omega)) dX7_isLockedFor_10 ?_
  refine xe_iadd hx hb (nI_add 128 (k / 16)) dX7_isLockedFor_11 ?_
  refine m_ald hx hb hK hM 11 (by decide) (n := 136) rfl (128 + (k / 16)) rfl (by omega) (by decide) dX7_isLockedFor_12 (v := (σ.2.1 11 (128 + (k / 16)))) rfl ?_
  refine lv_istore_n (lv' := [(3, .int (σ.2.1 11 (128 + (k / 16)))), (0, .ref M), (1, .int (nI k)), (2, .int o)]) hx hb dX7_isLockedFor_13 rfl hl (by decide) rfl (fun ls hl => ?_)
  refine lv_aload_n hx hb dX7_isLockedFor_14 rfl (lv_at hl 1 rfl) ?_
  refine m_get (v := .ref (ad 11)) hx hb hts h7 hown hK hM 11 (by decide) (hts (.fieldLink RX7 37 "ConfigBeaconModel" "locks" "[I") (by decide +kernel)) rfl dX7_isLockedFor_15 ?_
  refine lv_iload_n hx hb dX7_isLockedFor_18 rfl (lv_at hl 2 rfl) ?_
  refine m_ald hx hb hK hM 11 (by decide) (n := 136) rfl k rfl (by omega) (by decide) dX7_isLockedFor_19 (v := (σ.2.1 11 k)) rfl ?_
  refine lv_if_le (tgt := 33) hx hb dX7_isLockedFor_20 (by decide) (fun c_1 => ?_) (fun c_1 => ?_)
  · refine lv_iload_n hx hb dX7_isLockedFor_33 rfl (lv_at hl 0 rfl) ?_
    refine lv_if_le (tgt := 46) hx hb dX7_isLockedFor_34 (by decide) (fun c_2 => ?_) (fun c_2 => ?_)
    · refine lv_iconst (v := 0) hx hb dX7_isLockedFor_46 (by decide) ?_
      exact xr_zret hx hb hr hlocks (by first | (simp [lckF, bI, c_1, Int32.not_lt.mpr c_1, c_2, Int32.not_lt.mpr c_2]; done) | (simp_all [lckF, bI]; done) | (simp [lckF, bI, c_1, Int32.not_lt.mpr c_1, c_2, Int32.not_lt.mpr c_2]; omega)) dX7_isLockedFor_47
    · refine lv_iload_n hx hb dX7_isLockedFor_37 rfl (lv_at hl 0 rfl) ?_
      refine lv_iload_n hx hb dX7_isLockedFor_38 rfl (lv_at hl 3 rfl) ?_
      refine lv_icmp_eq (tgt := 46) hx hb dX7_isLockedFor_39 (by decide) (fun c_3 => ?_) (fun c_3 => ?_)
      · refine lv_iconst (v := 0) hx hb dX7_isLockedFor_46 (by decide) ?_
        exact xr_zret hx hb hr hlocks (by first | (simp [lckF, bI, c_1, Int32.not_lt.mpr c_1, c_2, Int32.not_le.mp c_2, c_3]; done) | (simp_all [lckF, bI]; done) | (simp [lckF, bI, c_1, Int32.not_lt.mpr c_1, c_2, Int32.not_le.mp c_2, c_3]; omega)) dX7_isLockedFor_47
      · refine lv_iconst (v := 1) hx hb dX7_isLockedFor_42 (by decide) ?_
        refine lv_goto (tgt := 47) hx hb dX7_isLockedFor_43 (by decide) ?_
        exact xr_zret hx hb hr hlocks (by first | (simp [lckF, bI, c_1, Int32.not_lt.mpr c_1, c_2, Int32.not_le.mp c_2, c_3]; done) | (simp_all [lckF, bI]; done) | (simp [lckF, bI, c_1, Int32.not_lt.mpr c_1, c_2, Int32.not_le.mp c_2, c_3]; omega)) dX7_isLockedFor_47
  · refine lv_aload_n hx hb dX7_isLockedFor_23 rfl (lv_at hl 1 rfl) ?_
    refine m_get (v := .ref (ad 11)) hx hb hts h7 hown hK hM 11 (by decide) (hts (.fieldLink RX7 37 "ConfigBeaconModel" "locks" "[I") (by decide +kernel)) rfl dX7_isLockedFor_24 ?_
    refine lv_iload_n hx hb dX7_isLockedFor_27 rfl (lv_at hl 2 rfl) ?_
    refine m_ald hx hb hK hM 11 (by decide) (n := 136) rfl k rfl (by omega) (by decide) dX7_isLockedFor_28 (v := (σ.2.1 11 k)) rfl ?_
    refine lv_iload_n hx hb dX7_isLockedFor_29 rfl (lv_at hl 3 rfl) ?_
    refine lv_icmp_ne (tgt := 42) hx hb dX7_isLockedFor_30 (by decide) (fun c_4 => ?_) (fun c_4 => ?_)
    · refine lv_iconst (v := 1) hx hb dX7_isLockedFor_42 (by decide) ?_
      refine lv_goto (tgt := 47) hx hb dX7_isLockedFor_43 (by decide) ?_
      exact xr_zret hx hb hr hlocks (by first | (simp [lckF, bI, c_1, Int32.not_le.mp c_1, c_4]; done) | (simp_all [lckF, bI]; done) | (simp [lckF, bI, c_1, Int32.not_le.mp c_1, c_4]; omega)) dX7_isLockedFor_47
    · refine lv_iload_n hx hb dX7_isLockedFor_33 rfl (lv_at hl 0 rfl) ?_
      refine lv_if_le (tgt := 46) hx hb dX7_isLockedFor_34 (by decide) (fun c_5 => ?_) (fun c_5 => ?_)
      · refine lv_iconst (v := 0) hx hb dX7_isLockedFor_46 (by decide) ?_
        exact xr_zret hx hb hr hlocks (by first | (simp [lckF, bI, c_1, Int32.not_le.mp c_1, c_4, c_5, Int32.not_lt.mpr c_5]; done) | (simp_all [lckF, bI]; done) | (simp [lckF, bI, c_1, Int32.not_le.mp c_1, c_4, c_5, Int32.not_lt.mpr c_5]; omega)) dX7_isLockedFor_47
      · refine lv_iload_n hx hb dX7_isLockedFor_37 rfl (lv_at hl 0 rfl) ?_
        refine lv_iload_n hx hb dX7_isLockedFor_38 rfl (lv_at hl 3 rfl) ?_
        refine lv_icmp_eq (tgt := 46) hx hb dX7_isLockedFor_39 (by decide) (fun c_6 => ?_) (fun c_6 => ?_)
        · refine lv_iconst (v := 0) hx hb dX7_isLockedFor_46 (by decide) ?_
          exact xr_zret hx hb hr hlocks (by first | (simp [lckF, bI, c_1, Int32.not_le.mp c_1, c_4, c_5, Int32.not_le.mp c_5, c_6]; done) | (simp_all [lckF, bI]; done) | (simp [lckF, bI, c_1, Int32.not_le.mp c_1, c_4, c_5, Int32.not_le.mp c_5, c_6]; omega)) dX7_isLockedFor_47
        · refine lv_iconst (v := 1) hx hb dX7_isLockedFor_42 (by decide) ?_
          refine lv_goto (tgt := 47) hx hb dX7_isLockedFor_43 (by decide) ?_
          exact xr_zret hx hb hr hlocks (by first | (simp [lckF, bI, c_1, Int32.not_le.mp c_1, c_4, c_5, Int32.not_le.mp c_5, c_6]; done) | (simp_all [lckF, bI]; done) | (simp [lckF, bI, c_1, Int32.not_le.mp c_1, c_4, c_5, Int32.not_le.mp c_5, c_6]; omega)) dX7_isLockedFor_47
