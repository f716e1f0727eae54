set_option maxHeartbeats 4000000 in
set_option maxRecDepth 100000 in
theorem c_J3_checkIndex_8e157 (l : Launch) (D : va_G) (cA : Nat → ClassId) (j n : Nat) (hj : j < n) (hn : n < 65536) : Met l yJ3_checkIndex_8e157 wsJ3_checkIndex_8e157 (rmK 0 0 0) (xP D cA [.int (nI j), .int (nI n), .null] (fun _ => True)) (xR (some (.int (nI j)))) 0 0 (fun _ => False) := by
  refine Met.ofW (cc := cJ3_checkIndex_8e157) (maxL := 3) (ret := (some .int)) (by decide) rfl ?_
  intro p e s m args below meth c s₁ B hml hv
  obtain ⟨rfl, hK, hI⟩ := hv
  have hx := B.exec
  have hb := B.bytes
  have hr := B.returns
  have hts := atoms_spec (ws := wsJ3_checkIndex_8e157) B.pre
  have hown : s.vm.findClass RJ3 = some m.cls := findClass_of_methodNamed B.named
  have hlocks := B.notSynchronized
  have hl := lv_entry ([.int (nI j), .int (nI n), .null]) (n := 3) (Nat.le_of_ble_eq_true rfl)
  rw [lg_entry_eq]
  generalize (lg_sl ([.int (nI j), .int (nI n), .null]) ++ List.replicate (3 - (lg_sl ([.int (nI j), .int (nI n), .null])).length) Slot.unset).toArray = ls at hl ⊢
  have hl : lv_has ls 3 [(0, .int (nI j)), (1, .int (nI n)), (2, .null)] := hl
  refine lv_iload_n hx hb dJ3_checkIndex_8e157_0 rfl (lv_at hl 0 rfl) ?_
  refine lv_if_lt (tgt := 9) hx hb dJ3_checkIndex_8e157_1 (by decide) (fun c_1 => absurd c_1 (nI_pos (by omega))) (fun _ => ?_)
  refine lv_iload_n hx hb dJ3_checkIndex_8e157_4 rfl (lv_at hl 0 rfl) ?_
  refine lv_iload_n hx hb dJ3_checkIndex_8e157_5 rfl (lv_at hl 1 rfl) ?_
  refine lv_icmp_lt (tgt := 16) hx hb dJ3_checkIndex_8e157_6 (by decide) (fun _ => ?_) (fun c_2 => absurd (nI_lt hj (by omega)) c_2)
  refine lv_iload_n hx hb dJ3_checkIndex_8e157_16 rfl (lv_at hl 0 rfl) ?_
  exact xr_iret hx hb hr hlocks rfl dJ3_checkIndex_8e157_17
set_option maxHeartbeats 4000000 in
set_option maxRecDepth 100000 in
theorem c_J15_checkIndex_7cf53 (l : Launch) (D : va_G) (cA : Nat → ClassId) (j n : Nat) (hj : j < n) (hn : n < 65536) : Met l yJ15_checkIndex_7cf53 wsJ15_checkIndex_7cf53 (rmK 1 0 0) (xP D cA [.int (nI j), .int (nI n)] (fun _ => True)) (xR (some (.int (nI j)))) 0 0 (fun _ => False) := by
  refine Met.ofW (cc := cJ15_checkIndex_7cf53) (maxL := 2) (ret := (some .int)) (by decide) rfl ?_
  intro p e s m args below meth c s₁ B hml hv
  obtain ⟨rfl, hK, hI⟩ := hv
  have hx := B.exec
  have hb := B.bytes
  have hr := B.returns
  have hts := atoms_spec (ws := wsJ15_checkIndex_7cf53) B.pre
  have hown : s.vm.findClass RJ15 = some m.cls := findClass_of_methodNamed B.named
  have hlocks := B.notSynchronized
  have hl := lv_entry ([.int (nI j), .int (nI n)]) (n := 2) (Nat.le_of_ble_eq_true rfl)
  rw [lg_entry_eq]
  generalize (lg_sl ([.int (nI j), .int (nI n)]) ++ List.replicate (2 - (lg_sl ([.int (nI j), .int (nI n)])).length) Slot.unset).toArray = ls at hl ⊢
  have hl : lv_has ls 2 [(0, .int (nI j)), (1, .int (nI n))] := hl
  refine lv_iload_n hx hb dJ15_checkIndex_7cf53_0 rfl (lv_at hl 0 rfl) ?_
  refine lv_iload_n hx hb dJ15_checkIndex_7cf53_1 rfl (lv_at hl 1 rfl) ?_
  refine lv_null hx hb dJ15_checkIndex_7cf53_2 ?_
  refine xr_call (va_runS (As := [.int (nI j), .int (nI n), .null]) (rest := []) ⟨hx, hb, hml, hown, hts⟩ (c_J3_checkIndex_8e157 l D cA j n hj hn) (va_cwS 3 hts gJ15_checkIndex_7cf53_J3_checkIndex_8e157 rfl rfl rfl (by decide +kernel) ⟨Nat.le_of_ble_eq_true rfl, Nat.le_of_ble_eq_true rfl⟩) (xPS hK trivial) rfl rfl hl.1 rfl (lv_room (Nat.le_of_ble_eq_true rfl)) dJ15_checkIndex_7cf53_3 ⟨Nat.le_of_ble_eq_true rfl, Nat.le_of_ble_eq_true rfl⟩) ?_
  exact xr_iret hx hb hr hlocks rfl dJ15_checkIndex_7cf53_6
set_option maxHeartbeats 4000000 in
set_option maxRecDepth 100000 in
theorem c_Jx4a65c_size_8abf5 (l : Launch) (D : va_G) (cA : Nat → ClassId) (a : Nat) (mc : Int32) (d n : Nat) : Met l yJx4a65c_size_8abf5 wsJx4a65c_size_8abf5 (rmK 0 0 0) (xP D cA [.ref a] (fun H => xO D a 0 [.int mc, .ref d, .int (nI n)] H)) (xR (some (.int (nI n)))) 0 0 (fun _ => False) := by
  refine Met.ofW (cc := cJx4a65c_size_8abf5) (maxL := 1) (ret := (some .int)) (by decide) rfl ?_
  intro p e s m args below meth c s₁ B hml hv
  obtain ⟨rfl, hK, hI⟩ := hv
  have hx := B.exec
  have hb := B.bytes
  have hr := B.returns
  have hts := atoms_spec (ws := wsJx4a65c_size_8abf5) B.pre
  have hown : s.vm.findClass RJx4a65c = some m.cls := findClass_of_methodNamed B.named
  have hlocks := B.notSynchronized
  have hl := lv_entry ([.ref a]) (n := 1) (Nat.le_of_ble_eq_true rfl)
  rw [lg_entry_eq]
  generalize (lg_sl ([.ref a]) ++ List.replicate (1 - (lg_sl ([.ref a])).length) Slot.unset).toArray = ls at hl ⊢
  have hl : lv_has ls 1 [(0, .ref a)] := hl
  have h_Jx4a65c : ∀ w ∈ wsJx4a65c0, w ∈ wsJx4a65c_size_8abf5 := fun _ h => List.mem_cons_of_mem _ (List.mem_append_right _ h)
  have hO := hI
  refine lv_aload_n hx hb dJx4a65c_size_8abf5_0 rfl (lv_at hl 0 rfl) ?_
  refine x_get (v := .int (nI n)) hx hb hts h_Jx4a65c hown hK hO rfl 2 (by decide) (hts (.fieldLink RJx4a65c 48 "java/util/ArrayList" "size" "I") (by decide +kernel)) (fun _ h => h) rfl dJx4a65c_size_8abf5_1 ?_
  exact xr_iret hx hb hr hlocks rfl dJx4a65c_size_8abf5_4
set_option maxHeartbeats 4000000 in
set_option maxRecDepth 100000 in
theorem c_Jx4a65c_elementData_915e3 (l : Launch) (D : va_G) (cA : Nat → ClassId) (a : Nat) (mc : Int32) (d n : Nat) (cap : Nat) (f : Nat → Option Nat) (j : Nat) (hj : j < cap) (hcap : cap ≤ 1000) (ov : Option Nat) (hov : f j = ov) : Met l yJx4a65c_elementData_915e3 wsJx4a65c_elementData_915e3 (rmK 0 0 0) (xP D cA [.ref a, .int (nI j)] (fun H => xO D a 0 [.int mc, .ref d, .int (nI n)] H ∧ xQ (cA 4) d cap f H)) (xR (some (va_rf ov))) 0 0 (fun _ => False) := by
  refine Met.ofW (cc := cJx4a65c_elementData_915e3) (maxL := 2) (ret := (some (.object "java/lang/Object"))) (by decide) rfl ?_
  intro p e s m args below meth c s₁ B hml hv
  obtain ⟨rfl, hK, hI⟩ := hv
  have hx := B.exec
  have hb := B.bytes
  have hr := B.returns
  have hts := atoms_spec (ws := wsJx4a65c_elementData_915e3) B.pre
  have hown : s.vm.findClass RJx4a65c = some m.cls := findClass_of_methodNamed B.named
  have hlocks := B.notSynchronized
  have hl := lv_entry ([.ref a, .int (nI j)]) (n := 2) (Nat.le_of_ble_eq_true rfl)
  rw [lg_entry_eq]
  generalize (lg_sl ([.ref a, .int (nI j)]) ++ List.replicate (2 - (lg_sl ([.ref a, .int (nI j)])).length) Slot.unset).toArray = ls at hl ⊢
  have hl : lv_has ls 2 [(0, .ref a), (1, .int (nI j))] := hl
  have h_Jx4a65c : ∀ w ∈ wsJx4a65c0, w ∈ wsJx4a65c_elementData_915e3 := fun _ h => List.mem_cons_of_mem _ (List.mem_append_right _ h)
  obtain ⟨hO, hQ⟩ := hI
  refine lv_aload_n hx hb dJx4a65c_elementData_915e3_0 rfl (lv_at hl 0 rfl) ?_
  refine x_get (v := .ref d) hx hb hts h_Jx4a65c hown hK hO rfl 1 (by decide) (hts (.fieldLink RJx4a65c 9 "java/util/ArrayList" "elementData" "[Ljava/lang/Object;") (by decide +kernel)) (fun _ h => h) rfl dJx4a65c_elementData_915e3_1 ?_
  refine lv_iload_n hx hb dJx4a65c_elementData_915e3_4 rfl (lv_at hl 1 rfl) ?_
  refine x_aald hx hb hK 4 rfl hQ j rfl (by omega) (by omega) (v := ov) hov dJx4a65c_elementData_915e3_5 ?_
  exact xr_aret hx hb hr rfl hlocks rfl dJx4a65c_elementData_915e3_6
set_option maxHeartbeats 4000000 in
set_option maxRecDepth 100000 in
theorem c_Jx4a65c_get_915e3 (l : Launch) (D : va_G) (cA : Nat → ClassId) (a : Nat) (mc : Int32) (d n : Nat) (cap : Nat) (f : Nat → Option Nat) (j : Nat) (hj : j < n) (hnc : n ≤ cap) (hcap : cap ≤ 1000) (ov : Option Nat) (hov : f j = ov) : Met l yJx4a65c_get_915e3 wsJx4a65c_get_915e3 (rmK 2 0 0) (xP D cA [.ref a, .int (nI j)] (fun H => xO D a 0 [.int mc, .ref d, .int (nI n)] H ∧ xQ (cA 4) d cap f H)) (xR (some (va_rf ov))) 0 0 (fun _ => False) := by
  refine Met.ofW (cc := cJx4a65c_get_915e3) (maxL := 2) (ret := (some (.object "java/lang/Object"))) (by decide) rfl ?_
  intro p e s m args below meth c s₁ B hml hv
  obtain ⟨rfl, hK, hI⟩ := hv
  have hx := B.exec
  have hb := B.bytes
  have hr := B.returns
  have hts := atoms_spec (ws := wsJx4a65c_get_915e3) B.pre
  have hown : s.vm.findClass RJx4a65c = some m.cls := findClass_of_methodNamed B.named
  have hlocks := B.notSynchronized
  have hl := lv_entry ([.ref a, .int (nI j)]) (n := 2) (Nat.le_of_ble_eq_true rfl)
  rw [lg_entry_eq]
  generalize (lg_sl ([.ref a, .int (nI j)]) ++ List.replicate (2 - (lg_sl ([.ref a, .int (nI j)])).length) Slot.unset).toArray = ls at hl ⊢
  have hl : lv_has ls 2 [(0, .ref a), (1, .int (nI j))] := hl
  have h_Jx4a65c : ∀ w ∈ wsJx4a65c0, w ∈ wsJx4a65c_get_915e3 := fun _ h => List.mem_cons_of_mem _ (List.mem_append_right _ h)
  obtain ⟨hO, hQ⟩ := hI
  have hn : n < 65536 := by omega
  refine lv_iload_n hx hb dJx4a65c_get_915e3_0 rfl (lv_at hl 1 rfl) ?_
  refine lv_aload_n hx hb dJx4a65c_get_915e3_1 rfl (lv_at hl 0 rfl) ?_
  refine x_get (v := .int (nI n)) hx hb hts h_Jx4a65c hown hK hO rfl 2 (by decide) (hts (.fieldLink RJx4a65c 48 "java/util/ArrayList" "size" "I") (by decide +kernel)) (fun _ h => h) rfl dJx4a65c_get_915e3_2 ?_
  refine xr_call (va_runS (As := [.int (nI j), .int (nI n)]) (rest := []) ⟨hx, hb, hml, hown, hts⟩ (c_J15_checkIndex_7cf53 l D cA j n hj hn) (va_cwS 2 hts gJx4a65c_get_915e3_J15_checkIndex_7cf53 rfl rfl rfl (by decide +kernel) ⟨Nat.le_of_ble_eq_true rfl, Nat.le_of_ble_eq_true rfl⟩) (xPS hK trivial) rfl rfl hl.1 rfl (lv_room (Nat.le_of_ble_eq_true rfl)) dJx4a65c_get_915e3_5 ⟨Nat.le_of_ble_eq_true rfl, Nat.le_of_ble_eq_true rfl⟩) ?_
  refine lv_pop hx hb dJx4a65c_get_915e3_8 rfl ?_
  refine lv_aload_n hx hb dJx4a65c_get_915e3_9 rfl (lv_at hl 0 rfl) ?_
  refine lv_iload_n hx hb dJx4a65c_get_915e3_10 rfl (lv_at hl 1 rfl) ?_
  refine xr_call (va_runV (As := [.int (nI j)]) (rest := []) ⟨hx, hb, hml, hown, hts⟩ (c_Jx4a65c_elementData_915e3 l D cA a mc d n cap f j (by omega) hcap ov hov) (cwV 1 hts gJx4a65c_get_915e3_Jx4a65c_elementData_915e3 rfl rfl rfl (by decide +kernel) ⟨Nat.le_of_ble_eq_true rfl, Nat.le_of_ble_eq_true rfl⟩) (xPV hK hO rfl ⟨hO, hQ⟩) rfl rfl hl.1 rfl (lv_room (Nat.le_of_ble_eq_true rfl)) dJx4a65c_get_915e3_11 ⟨Nat.le_of_ble_eq_true rfl, Nat.le_of_ble_eq_true rfl⟩) ?_
  exact xr_aret hx hb hr rfl hlocks rfl dJx4a65c_get_915e3_14
set_option maxHeartbeats 4000000 in
set_option maxRecDepth 100000 in
theorem c_X3_isKnown (l : Launch) (D : va_G) (cA : Nat → ClassId) (a iw : Nat) (ic : Int32) (en9 : Option Nat) (wr lo uw kn oc fa : Int32) (b : Nat) (hb9 : b < 16) : Met l yX3_isKnown wsX3_isKnown (rmK 1 0 0) (xP D cA [.ref a, .int (nI b)] (fun H => xO D a 4 [.ref iw, .int ic, va_rf en9, .int wr, .int lo, .int uw, .int kn, .int oc, .int fa] H)) (xR (some (.int (bI (tbF kn b))))) 0 0 (fun _ => False) := by
  refine Met.ofW (cc := cX3_isKnown) (maxL := 2) (ret := (some .boolean)) (by decide) rfl ?_
  intro p e s m args below meth c s₁ B hml hv
  obtain ⟨rfl, hK, hI⟩ := hv
  have hx := B.exec
  have hb := B.bytes
  have hr := B.returns
  have hts := atoms_spec (ws := wsX3_isKnown) B.pre
  have hown : s.vm.findClass RX3 = some m.cls := findClass_of_methodNamed B.named
  have hlocks := B.notSynchronized
  have hl := lv_entry ([.ref a, .int (nI b)]) (n := 2) (Nat.le_of_ble_eq_true rfl)
  rw [lg_entry_eq]
  generalize (lg_sl ([.ref a, .int (nI b)]) ++ List.replicate (2 - (lg_sl ([.ref a, .int (nI b)])).length) Slot.unset).toArray = ls at hl ⊢
  have hl : lv_has ls 2 [(0, .ref a), (1, .int (nI b))] := hl
  have h_X3 : ∀ w ∈ wsX30, w ∈ wsX3_isKnown := fun _ h => List.mem_cons_of_mem _ (List.mem_append_right _ h)
  have hO := hI
  refine lv_aload_n hx hb dX3_isKnown_0 rfl (lv_at hl 0 rfl) ?_
  refine x_get (v := .int kn) hx hb hts h_X3 hown hK hO rfl 6 (by decide) (hts (.fieldLink RX3 33 "ConfigBeacon$Inquiry" "known" "I") (by decide +kernel)) (fun _ h => h) rfl dX3_isKnown_1 ?_
  refine lv_iload_n hx hb dX3_isKnown_4 rfl (lv_at hl 1 rfl) ?_
  refine xr_call (va_runSN (As := [.int (nI b)]) (rest := [.int kn]) ⟨hx, hb, hml, hown, hts⟩ (c_X6_bit l D cA b) ⟨va_cnB 1 hts gX3_isKnown_X6_bit_n42 rfl rfl rfl (hK.2.1 ("ConfigBeacon$Inquiry", 42, yX6_bit) (by decide)) (hts (.initialized RX6) (by decide +kernel)) (by decide +kernel) ⟨Nat.le_of_ble_eq_true rfl, Nat.le_of_ble_eq_true rfl⟩, hts (.static yX6_bit) (by decide +kernel), trivial⟩ (xPS hK trivial) rfl rfl hl.1 rfl (lv_room (Nat.le_of_ble_eq_true rfl)) dX3_isKnown_5 ⟨Nat.le_of_ble_eq_true rfl, Nat.le_of_ble_eq_true rfl⟩) ?_
  refine lv_iand hx hb dX3_isKnown_8 ?_
  refine lv_if_eq (tgt := 16) hx hb dX3_isKnown_9 (by decide) (fun c_1 => ?_) (fun c_1 => ?_)
  · refine lv_iconst (v := 0) hx hb dX3_isKnown_16 (by decide) ?_
    exact xr_zret hx hb hr hlocks (b := tbF kn b) (by rw [show tbF kn b = false from (tb_and kn hb9).mp c_1]; rfl) dX3_isKnown_17
  · refine lv_iconst (v := 1) hx hb dX3_isKnown_12 (by decide) ?_
    refine lv_goto (tgt := 17) hx hb dX3_isKnown_13 (by decide) ?_
    exact xr_zret hx hb hr hlocks (b := tbF kn b) (by rw [show tbF kn b = true from (by cases hq : tbF kn b with | true => rfl | false => exact absurd ((tb_and kn hb9).mpr hq) c_1)]; rfl) dX3_isKnown_17
set_option maxHeartbeats 4000000 in
set_option maxRecDepth 100000 in
theorem c_X3_isUnderWay (l : Launch) (D : va_G) (cA : Nat → ClassId) (a iw : Nat) (ic : Int32) (en9 : Option Nat) (wr lo uw kn oc fa : Int32) (b : Nat) (hb9 : b < 16) : Met l yX3_isUnderWay wsX3_isUnderWay (rmK 1 0 0) (xP D cA [.ref a, .int (nI b)] (fun H => xO D a 4 [.ref iw, .int ic, va_rf en9, .int wr, .int lo, .int uw, .int kn, .int oc, .int fa] H)) (xR (some (.int (bI (tbF uw b))))) 0 0 (fun _ => False) := by
  refine Met.ofW (cc := cX3_isUnderWay) (maxL := 2) (ret := (some .boolean)) (by decide) rfl ?_
  intro p e s m args below meth c s₁ B hml hv
  obtain ⟨rfl, hK, hI⟩ := hv
  have hx := B.exec
  have hb := B.bytes
  have hr := B.returns
  have hts := atoms_spec (ws := wsX3_isUnderWay) B.pre
  have hown : s.vm.findClass RX3 = some m.cls := findClass_of_methodNamed B.named
  have hlocks := B.notSynchronized
  have hl := lv_entry ([.ref a, .int (nI b)]) (n := 2) (Nat.le_of_ble_eq_true rfl)
  rw [lg_entry_eq]
  generalize (lg_sl ([.ref a, .int (nI b)]) ++ List.replicate (2 - (lg_sl ([.ref a, .int (nI b)])).length) Slot.unset).toArray = ls at hl ⊢
  have hl : lv_has ls 2 [(0, .ref a), (1, .int (nI b))] := hl
  have h_X3 : ∀ w ∈ wsX30, w ∈ wsX3_isUnderWay := fun _ h => List.mem_cons_of_mem _ (List.mem_append_right _ h)
  have hO := hI
  refine lv_aload_n hx hb dX3_isUnderWay_0 rfl (lv_at hl 0 rfl) ?_
  refine x_get (v := .int uw) hx hb hts h_X3 hown hK hO rfl 5 (by decide) (hts (.fieldLink RX3 30 "ConfigBeacon$Inquiry" "underWay" "I") (by decide +kernel)) (fun _ h => h) rfl dX3_isUnderWay_1 ?_
  refine lv_iload_n hx hb dX3_isUnderWay_4 rfl (lv_at hl 1 rfl) ?_
  refine xr_call (va_runSN (As := [.int (nI b)]) (rest := [.int uw]) ⟨hx, hb, hml, hown, hts⟩ (c_X6_bit l D cA b) ⟨va_cnB 1 hts gX3_isUnderWay_X6_bit_n42 rfl rfl rfl (hK.2.1 ("ConfigBeacon$Inquiry", 42, yX6_bit) (by decide)) (hts (.initialized RX6) (by decide +kernel)) (by decide +kernel) ⟨Nat.le_of_ble_eq_true rfl, Nat.le_of_ble_eq_true rfl⟩, hts (.static yX6_bit) (by decide +kernel), trivial⟩ (xPS hK trivial) rfl rfl hl.1 rfl (lv_room (Nat.le_of_ble_eq_true rfl)) dX3_isUnderWay_5 ⟨Nat.le_of_ble_eq_true rfl, Nat.le_of_ble_eq_true rfl⟩) ?_
  refine lv_iand hx hb dX3_isUnderWay_8 ?_
  refine lv_if_eq (tgt := 16) hx hb dX3_isUnderWay_9 (by decide) (fun c_1 => ?_) (fun c_1 => ?_)
  · refine lv_iconst (v := 0) hx hb dX3_isUnderWay_16 (by decide) ?_
    exact xr_zret hx hb hr hlocks (b := tbF uw b) (by rw [show tbF uw b = false from (tb_and uw hb9).mp c_1]; rfl) dX3_isUnderWay_17
  · refine lv_iconst (v := 1) hx hb dX3_isUnderWay_12 (by decide) ?_
    refine lv_goto (tgt := 17) hx hb dX3_isUnderWay_13 (by decide) ?_
    exact xr_zret hx hb hr hlocks (b := tbF uw b) (by rw [show tbF uw b = true from (by cases hq : tbF uw b with | true => rfl | false => exact absurd ((tb_and uw hb9).mpr hq) c_1)]; rfl) dX3_isUnderWay_17
