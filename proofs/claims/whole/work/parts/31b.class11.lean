set_option maxHeartbeats 4000000 in
set_option maxRecDepth 100000 in
theorem c_X0_init (l : Launch) (D : va_G) (cA : Nat → ClassId) (a : Nat) (H9 : Heap) (g9 r9 : Int32) : Met l yX0_init wsX0_init (rmK 0 0 0) (xP D cA [.ref a, .int g9, .int r9] (fun H => H = H9 ∧ xO D a 1 [.int 0, .int 0] H)) (xW (xV none (fun H => xO D a 1 [.int g9, .int r9] H)) (fun q => q = a)) 0 0 (fun q => q = a) := by
  refine Met.ofW (cc := cX0_init) (maxL := 3) (ret := none) (by decide) rfl ?_
  intro p e s m args below meth c s₁ B hml hv
  obtain ⟨rfl, hK, hI⟩ := hv
  have hx := B.exec
  have hb := B.bytes
  have hr := B.returns
  have hts := atoms_spec (ws := wsX0_init) B.pre
  have hown : s.vm.findClass RX0 = some m.cls := findClass_of_methodNamed B.named
  have hlocks := B.notSynchronized
  have hin : meth.name = "<init>" := (name_of_methodNamed B.named B.method).1
  have hl := lv_entry ([.ref a, .int g9, .int r9]) (n := 3) (Nat.le_of_ble_eq_true rfl)
  rw [lg_entry_eq]
  generalize (lg_sl ([.ref a, .int g9, .int r9]) ++ List.replicate (3 - (lg_sl ([.ref a, .int g9, .int r9])).length) Slot.unset).toArray = ls at hl ⊢
  have hl : lv_has ls 3 [(0, .ref a), (1, .int g9), (2, .int r9)] := hl
  have h_X0 : ∀ w ∈ wsX00, w ∈ wsX0_init := fun _ h => List.mem_cons_of_mem _ (List.mem_append_right _ h)
  obtain ⟨hH9, hO⟩ := hI
  have hS : va_S (fun q => q = a) s.heap s.heap [] := va_S.rf
  have ha9 : a < s.heap.size := x_lt hO
  refine lv_aload_n hx hb dX0_init_0 rfl (lv_at hl 0 rfl) ?_
  refine W.objInit hx hb hown (hts (.methodLink RX0 1 objectInit) (by decide +kernel)) (hts (.instanceMethod objectInit) (by decide +kernel)) (hts _ (List.mem_cons_of_mem _ (List.mem_append_left _ (List.mem_of_getElem? (i := 2) rfl)))) rfl (by rw [hml]; exact hl.1) rfl dX0_init_1 (Nat.le_of_ble_eq_true rfl) (Nat.le_of_ble_eq_true rfl) ?_
  refine W.eq (g2 := F0 m 4 ls []) rfl ?_
  refine lv_aload_n hx hb dX0_init_4 rfl (lv_at hl 0 rfl) ?_
  refine lv_iload_n hx hb dX0_init_5 rfl (lv_at hl 1 rfl) ?_
  refine x_put hx hb hts h_X0 tyX0 tyX0_ok nmX0 hown hK hO hS rfl rfl 0 (by decide) (hts (.fieldLink RX0 7 "ConfigBeacon$Client" "region" "I") (by decide +kernel)) (fun _ h => h) rfl (tyX0_ok 0 (by decide)) rfl rfl (Nat.le_of_ble_eq_true rfl) dX0_init_6 (fun H locs hO z9 q9 hS => ?_)
  have hO : xO D a 1 [.int g9, .int 0] H := hO
  refine lv_aload_n hx hb dX0_init_9 rfl (lv_at hl 0 rfl) ?_
  refine lv_iload_n hx hb dX0_init_10 rfl (lv_at hl 2 rfl) ?_
  refine x_put hx hb hts h_X0 tyX0 tyX0_ok nmX0 hown hK hO hS rfl rfl 1 (by decide) (hts (.fieldLink RX0 13 "ConfigBeacon$Client" "group" "I") (by decide +kernel)) (fun _ h => h) rfl (tyX0_ok 1 (by decide)) rfl rfl (Nat.le_of_ble_eq_true rfl) dX0_init_11 (fun H locs hO z9 q9 hS => ?_)
  have hO : xO D a 1 [.int g9, .int r9] H := hO
  exact xw_vret hx hb hr hlocks hS ⟨rfl, hO⟩ (Nat.le_refl _) (Nat.le_refl _) dX0_init_14
set_option maxHeartbeats 4000000 in
set_option maxRecDepth 100000 in
theorem c_X2_init (l : Launch) (D : va_G) (cA : Nat → ClassId) (a : Nat) (H9 : Heap) (b0 f0 s0 : Int32) : Met l yX2_init wsX2_init (rmK 0 0 0) (xP D cA [.ref a, .int b0, .int f0, .int s0] (fun H => H = H9 ∧ xO D a 3 [.int 0, .int 0, .int 0] H)) (xW (xV none (fun H => xO D a 3 [.int b0, .int f0, .int s0] H)) (fun q => q = a)) 0 0 (fun q => q = a) := by
  refine Met.ofW (cc := cX2_init) (maxL := 4) (ret := none) (by decide) rfl ?_
  intro p e s m args below meth c s₁ B hml hv
  obtain ⟨rfl, hK, hI⟩ := hv
  have hx := B.exec
  have hb := B.bytes
  have hr := B.returns
  have hts := atoms_spec (ws := wsX2_init) B.pre
  have hown : s.vm.findClass RX2 = some m.cls := findClass_of_methodNamed B.named
  have hlocks := B.notSynchronized
  have hin : meth.name = "<init>" := (name_of_methodNamed B.named B.method).1
  have hl := lv_entry ([.ref a, .int b0, .int f0, .int s0]) (n := 4) (Nat.le_of_ble_eq_true rfl)
  rw [lg_entry_eq]
  generalize (lg_sl ([.ref a, .int b0, .int f0, .int s0]) ++ List.replicate (4 - (lg_sl ([.ref a, .int b0, .int f0, .int s0])).length) Slot.unset).toArray = ls at hl ⊢
  have hl : lv_has ls 4 [(0, .ref a), (1, .int b0), (2, .int f0), (3, .int s0)] := hl
  have h_X2 : ∀ w ∈ wsX20, w ∈ wsX2_init := fun _ h => List.mem_cons_of_mem _ (List.mem_append_right _ h)
  obtain ⟨hH9, hO⟩ := hI
  have hS : va_S (fun q => q = a) s.heap s.heap [] := va_S.rf
  have ha9 : a < s.heap.size := x_lt hO
  refine lv_aload_n hx hb dX2_init_0 rfl (lv_at hl 0 rfl) ?_
  refine W.objInit hx hb hown (hts (.methodLink RX2 1 objectInit) (by decide +kernel)) (hts (.instanceMethod objectInit) (by decide +kernel)) (hts _ (List.mem_cons_of_mem _ (List.mem_append_left _ (List.mem_of_getElem? (i := 2) rfl)))) rfl (by rw [hml]; exact hl.1) rfl dX2_init_1 (Nat.le_of_ble_eq_true rfl) (Nat.le_of_ble_eq_true rfl) ?_
  refine W.eq (g2 := F0 m 4 ls []) rfl ?_
  refine lv_aload_n hx hb dX2_init_4 rfl (lv_at hl 0 rfl) ?_
  refine lv_iload_n hx hb dX2_init_5 rfl (lv_at hl 1 rfl) ?_
  refine x_putF hx hb hts h_X2 tyX2 tyX2_ok nmX2 hown hK hO hS rfl rfl 0 (by decide) (hts (.fieldLink RX2 7 "ConfigBeacon$Entry" "base" "I") (by decide +kernel)) (fun _ h => h) rfl hin rfl (tyX2_ok 0 (by decide)) rfl rfl (Nat.le_of_ble_eq_true rfl) dX2_init_6 (fun H locs hO z9 q9 hS => ?_)
  have hO : xO D a 3 [.int b0, .int 0, .int 0] H := hO
  refine lv_aload_n hx hb dX2_init_9 rfl (lv_at hl 0 rfl) ?_
  refine lv_iload_n hx hb dX2_init_10 rfl (lv_at hl 2 rfl) ?_
  refine x_putF hx hb hts h_X2 tyX2 tyX2_ok nmX2 hown hK hO hS rfl rfl 1 (by decide) (hts (.fieldLink RX2 13 "ConfigBeacon$Entry" "first" "I") (by decide +kernel)) (fun _ h => h) rfl hin rfl (tyX2_ok 1 (by decide)) rfl rfl (Nat.le_of_ble_eq_true rfl) dX2_init_11 (fun H locs hO z9 q9 hS => ?_)
  have hO : xO D a 3 [.int b0, .int f0, .int 0] H := hO
  refine lv_aload_n hx hb dX2_init_14 rfl (lv_at hl 0 rfl) ?_
  refine lv_iload_n hx hb dX2_init_15 rfl (lv_at hl 3 rfl) ?_
  refine x_putF hx hb hts h_X2 tyX2 tyX2_ok nmX2 hown hK hO hS rfl rfl 2 (by decide) (hts (.fieldLink RX2 16 "ConfigBeacon$Entry" "second" "I") (by decide +kernel)) (fun _ h => h) rfl hin rfl (tyX2_ok 2 (by decide)) rfl rfl (Nat.le_of_ble_eq_true rfl) dX2_init_16 (fun H locs hO z9 q9 hS => ?_)
  have hO : xO D a 3 [.int b0, .int f0, .int s0] H := hO
  exact xw_vret hx hb hr hlocks hS ⟨rfl, hO⟩ (Nat.le_refl _) (Nat.le_refl _) dX2_init_19
set_option maxHeartbeats 4000000 in
set_option maxRecDepth 100000 in
theorem c_X5_init (l : Launch) (D : va_G) (cA : Nat → ClassId) (a : Nat) (H9 : Heap) (e9 : Nat) : Met l yX5_init wsX5_init (rmK 0 0 0) (xP D cA [.ref a, .ref e9] (fun H => H = H9 ∧ xO D a 6 [.null, .int 0] H)) (xW (xV none (fun H => xO D a 6 [.ref e9, .int 0] H)) (fun q => q = a)) 0 0 (fun q => q = a) := by
  refine Met.ofW (cc := cX5_init) (maxL := 2) (ret := none) (by decide) rfl ?_
  intro p e s m args below meth c s₁ B hml hv
  obtain ⟨rfl, hK, hI⟩ := hv
  have hx := B.exec
  have hb := B.bytes
  have hr := B.returns
  have hts := atoms_spec (ws := wsX5_init) B.pre
  have hown : s.vm.findClass RX5 = some m.cls := findClass_of_methodNamed B.named
  have hlocks := B.notSynchronized
  have hin : meth.name = "<init>" := (name_of_methodNamed B.named B.method).1
  have hl := lv_entry ([.ref a, .ref e9]) (n := 2) (Nat.le_of_ble_eq_true rfl)
  rw [lg_entry_eq]
  generalize (lg_sl ([.ref a, .ref e9]) ++ List.replicate (2 - (lg_sl ([.ref a, .ref e9])).length) Slot.unset).toArray = ls at hl ⊢
  have hl : lv_has ls 2 [(0, .ref a), (1, .ref e9)] := hl
  have h_X5 : ∀ w ∈ wsX50, w ∈ wsX5_init := fun _ h => List.mem_cons_of_mem _ (List.mem_append_right _ h)
  obtain ⟨hH9, hO⟩ := hI
  have hS : va_S (fun q => q = a) s.heap s.heap [] := va_S.rf
  have ha9 : a < s.heap.size := x_lt hO
  refine lv_aload_n hx hb dX5_init_0 rfl (lv_at hl 0 rfl) ?_
  refine W.objInit hx hb hown (hts (.methodLink RX5 1 objectInit) (by decide +kernel)) (hts (.instanceMethod objectInit) (by decide +kernel)) (hts _ (List.mem_cons_of_mem _ (List.mem_append_left _ (List.mem_of_getElem? (i := 2) rfl)))) rfl (by rw [hml]; exact hl.1) rfl dX5_init_1 (Nat.le_of_ble_eq_true rfl) (Nat.le_of_ble_eq_true rfl) ?_
  refine W.eq (g2 := F0 m 4 ls []) rfl ?_
  refine lv_aload_n hx hb dX5_init_4 rfl (lv_at hl 0 rfl) ?_
  refine lv_aload_n hx hb dX5_init_5 rfl (lv_at hl 1 rfl) ?_
  refine x_putF hx hb hts h_X5 tyX5 tyX5_ok nmX5 hown hK hO hS rfl rfl 0 (by decide) (hts (.fieldLink RX5 7 "ConfigBeacon$Rollout" "entry" "LConfigBeacon$Entry;") (by decide +kernel)) (fun _ h => h) rfl hin rfl (tyX5_ok 0 (by decide)) rfl rfl (Nat.le_of_ble_eq_true rfl) dX5_init_6 (fun H locs hO z9 q9 hS => ?_)
  have hO : xO D a 6 [.ref e9, .int 0] H := hO
  exact xw_vret hx hb hr hlocks hS ⟨rfl, hO⟩ (Nat.le_refl _) (Nat.le_refl _) dX5_init_9
set_option maxHeartbeats 4000000 in
set_option maxRecDepth 100000 in
theorem c_X1_init (l : Launch) (D : va_G) (cA : Nat → ClassId) (a : Nat) (H9 : Heap)  : Met l yX1_init wsX1_init (rmK 0 1 128) (xP D cA [.ref a] (fun H => H = H9 ∧ xO D a 2 [.null] H)) (xW (xV none (fun H => ∃ q1, H9.size ≤ q1 ∧ q1 < H.size ∧ xO D a 2 [.ref q1] H ∧ xQ (cA 2) q1 128 (fun _ => none) H)) (fun q => q = a ∨ H9.size ≤ q)) 1 128 (fun q => q = a ∨ H9.size ≤ q) := by
  refine Met.ofW (cc := cX1_init) (maxL := 1) (ret := none) (by decide) rfl ?_
  intro p e s m args below meth c s₁ B hml hv
  obtain ⟨rfl, hK, hI⟩ := hv
  have hx := B.exec
  have hb := B.bytes
  have hr := B.returns
  have hts := atoms_spec (ws := wsX1_init) B.pre
  have hown : s.vm.findClass RX1 = some m.cls := findClass_of_methodNamed B.named
  have hlocks := B.notSynchronized
  have hin : meth.name = "<init>" := (name_of_methodNamed B.named B.method).1
  have hl := lv_entry ([.ref a]) (n := 1) (Nat.le_of_ble_eq_true rfl)
  rw [lg_entry_eq]
  generalize (lg_sl ([.ref a]) ++ List.replicate (1 - (lg_sl ([.ref a])).length) Slot.unset).toArray = ls at hl ⊢
  have hl : lv_has ls 1 [(0, .ref a)] := hl
  have h_X1 : ∀ w ∈ wsX10, w ∈ wsX1_init := fun _ h => List.mem_cons_of_mem _ (List.mem_append_right _ h)
  obtain ⟨hH9, hO⟩ := hI
  have hS : va_S (fun q => q = a ∨ H9.size ≤ q) s.heap s.heap [] := va_S.rf
  have ha9 : a < s.heap.size := x_lt hO
  refine lv_aload_n hx hb dX1_init_0 rfl (lv_at hl 0 rfl) ?_
  refine W.objInit hx hb hown (hts (.methodLink RX1 3 objectInit) (by decide +kernel)) (hts (.instanceMethod objectInit) (by decide +kernel)) (hts _ (List.mem_cons_of_mem _ (List.mem_append_left _ (List.mem_of_getElem? (i := 2) rfl)))) rfl (by rw [hml]; exact hl.1) rfl dX1_init_1 (Nat.le_of_ble_eq_true rfl) (Nat.le_of_ble_eq_true rfl) ?_
  refine W.eq (g2 := F0 m 4 ls []) rfl ?_
  refine lv_aload_n hx hb dX1_init_4 rfl (lv_at hl 0 rfl) ?_
  refine lv_sipush (v := 128) hx hb dX1_init_5 (by decide) ?_
  refine xn_q hx hb hown (hts (.classLink RX1 9 "ConfigBeacon$Entry") (by decide +kernel)) hK.2.2.2.1 hK 2 rfl hS 128 (by decide) (by decide) (Nat.le_of_ble_eq_true rfl) (Nat.le_of_ble_eq_true rfl) (Nat.le_of_ble_eq_true rfl) dX1_init_8 (fun q1 H hq1 ghq1 hN1 z9 o9 hS => ?_)
  have hlt := x_lt hO
  have hO := va_at.kept hO (o9 _ (x_lt hO))
  refine x_putF hx hb hts h_X1 tyX1 tyX1_ok nmX1 hown hK hO hS (Or.inl rfl) rfl 0 (by decide) (hts (.fieldLink RX1 11 "ConfigBeacon$Entries" "all" "[LConfigBeacon$Entry;") (by decide +kernel)) (fun _ h => h) rfl hin rfl (tyX1_ok 0 (by decide)) rfl rfl (Nat.le_of_ble_eq_true rfl) dX1_init_11 (fun H locs hO z9 q9 hS => ?_)
  have hO : xO D a 2 [.ref q1] H := hO
  have hN1 := x_kept hN1 (q9 _ (by omega))
  exact xw_vret hx hb hr hlocks hS ⟨rfl, q1, by rw [← hH9]; exact ghq1, q_lt hN1, hO, hN1⟩ (Nat.le_refl _) (Nat.le_refl _) dX1_init_14
set_option maxHeartbeats 4000000 in
set_option maxRecDepth 100000 in
theorem c_X3_init (l : Launch) (D : va_G) (cA : Nat → ClassId) (a : Nat) (H9 : Heap)  : Met l yX3_init wsX3_init (rmK 0 1 16) (xP D cA [.ref a] (fun H => H = H9 ∧ xO D a 4 [.null, .int 0, .null, .int 0, .int 0, .int 0, .int 0, .int 0, .int 0] H)) (xW (xV none (fun H => ∃ q1, H9.size ≤ q1 ∧ q1 < H.size ∧ xO D a 4 [.ref q1, .int 0, .null, .int 0, .int 0, .int 0, .int 0, .int 0, .int 0] H ∧ xL (cA 1) q1 16 (fun _ => 0) H)) (fun q => q = a ∨ H9.size ≤ q)) 1 16 (fun q => q = a ∨ H9.size ≤ q) := by
  refine Met.ofW (cc := cX3_init) (maxL := 1) (ret := none) (by decide) rfl ?_
  intro p e s m args below meth c s₁ B hml hv
  obtain ⟨rfl, hK, hI⟩ := hv
  have hx := B.exec
  have hb := B.bytes
  have hr := B.returns
  have hts := atoms_spec (ws := wsX3_init) B.pre
  have hown : s.vm.findClass RX3 = some m.cls := findClass_of_methodNamed B.named
  have hlocks := B.notSynchronized
  have hin : meth.name = "<init>" := (name_of_methodNamed B.named B.method).1
  have hl := lv_entry ([.ref a]) (n := 1) (Nat.le_of_ble_eq_true rfl)
  rw [lg_entry_eq]
  generalize (lg_sl ([.ref a]) ++ List.replicate (1 - (lg_sl ([.ref a])).length) Slot.unset).toArray = ls at hl ⊢
  have hl : lv_has ls 1 [(0, .ref a)] := hl
  have h_X3 : ∀ w ∈ wsX30, w ∈ wsX3_init := fun _ h => List.mem_cons_of_mem _ (List.mem_append_right _ h)
  obtain ⟨hH9, hO⟩ := hI
  have hS : va_S (fun q => q = a ∨ H9.size ≤ q) s.heap s.heap [] := va_S.rf
  have ha9 : a < s.heap.size := x_lt hO
  refine lv_aload_n hx hb dX3_init_0 rfl (lv_at hl 0 rfl) ?_
  refine W.objInit hx hb hown (hts (.methodLink RX3 3 objectInit) (by decide +kernel)) (hts (.instanceMethod objectInit) (by decide +kernel)) (hts _ (List.mem_cons_of_mem _ (List.mem_append_left _ (List.mem_of_getElem? (i := 2) rfl)))) rfl (by rw [hml]; exact hl.1) rfl dX3_init_1 (Nat.le_of_ble_eq_true rfl) (Nat.le_of_ble_eq_true rfl) ?_
  refine W.eq (g2 := F0 m 4 ls []) rfl ?_
  refine lv_aload_n hx hb dX3_init_4 rfl (lv_at hl 0 rfl) ?_
  refine lv_bipush (v := 16) hx hb dX3_init_5 (by decide) ?_
  refine xn_l hx hb (hts (.arrayClass .long) (by decide +kernel)) hK hS 16 (by decide) (by decide) (Nat.le_of_ble_eq_true rfl) (Nat.le_of_ble_eq_true rfl) (Nat.le_of_ble_eq_true rfl) dX3_init_7 (fun q1 H hq1 ghq1 hN1 z9 o9 hS => ?_)
  have hlt := x_lt hO
  have hO := va_at.kept hO (o9 _ (x_lt hO))
  refine x_putF hx hb hts h_X3 tyX3 tyX3_ok nmX3 hown hK hO hS (Or.inl rfl) rfl 0 (by decide) (hts (.fieldLink RX3 9 "ConfigBeacon$Inquiry" "values" "[J") (by decide +kernel)) (fun _ h => h) rfl hin rfl (tyX3_ok 0 (by decide)) rfl rfl (Nat.le_of_ble_eq_true rfl) dX3_init_9 (fun H locs hO z9 q9 hS => ?_)
  have hO : xO D a 4 [.ref q1, .int 0, .null, .int 0, .int 0, .int 0, .int 0, .int 0, .int 0] H := hO
  have hN1 := x_kept hN1 (q9 _ (by omega))
  exact xw_vret hx hb hr hlocks hS ⟨rfl, q1, by rw [← hH9]; exact ghq1, q_lt hN1, hO, hN1⟩ (Nat.le_refl _) (Nat.le_refl _) dX3_init_12
set_option maxHeartbeats 4000000 in
set_option maxRecDepth 100000 in
theorem c_X4_init (l : Launch) (D : va_G) (cA : Nat → ClassId) (a : Nat) (H9 : Heap) (num pre9 sel whi : Int32) : Met l yX4_init wsX4_init (rmK 0 3 49) (xP D cA [.ref a, .int num, .int pre9, .int sel, .int whi] (fun H => H = H9 ∧ xO D a 5 [.int 0, .int 0, .int 0, .int 0, .null, .null, .null] H)) (xW (xV none (fun H => ∃ q1 q2 q3, H9.size ≤ q1 ∧ q1 < q2 ∧ q2 < q3 ∧ q3 < H.size ∧ xO D a 5 (lyV num sel whi pre9 q1 q2 q3) H ∧ xI (cA 0) q1 17 (fun _ => 0) H ∧ xQ (cA 3) q2 16 (fun _ => none) H ∧ xI (cA 0) q3 16 (fun _ => 0) H)) (fun q => q = a ∨ H9.size ≤ q)) 3 49 (fun q => q = a ∨ H9.size ≤ q) := by
  refine Met.ofW (cc := cX4_init) (maxL := 5) (ret := none) (by decide) rfl ?_
  intro p e s m args below meth c s₁ B hml hv
  obtain ⟨rfl, hK, hI⟩ := hv
  have hx := B.exec
  have hb := B.bytes
  have hr := B.returns
  have hts := atoms_spec (ws := wsX4_init) B.pre
  have hown : s.vm.findClass RX4 = some m.cls := findClass_of_methodNamed B.named
  have hlocks := B.notSynchronized
  have hin : meth.name = "<init>" := (name_of_methodNamed B.named B.method).1
  have hl := lv_entry ([.ref a, .int num, .int pre9, .int sel, .int whi]) (n := 5) (Nat.le_of_ble_eq_true rfl)
  rw [lg_entry_eq]
  generalize (lg_sl ([.ref a, .int num, .int pre9, .int sel, .int whi]) ++ List.replicate (5 - (lg_sl ([.ref a, .int num, .int pre9, .int sel, .int whi])).length) Slot.unset).toArray = ls at hl ⊢
  have hl : lv_has ls 5 [(0, .ref a), (1, .int num), (2, .int pre9), (3, .int sel), (4, .int whi)] := hl
  have h_X4 : ∀ w ∈ wsX40, w ∈ wsX4_init := fun _ h => List.mem_cons_of_mem _ (List.mem_append_right _ h)
  obtain ⟨hH9, hO⟩ := hI
  have hS : va_S (fun q => q = a ∨ H9.size ≤ q) s.heap s.heap [] := va_S.rf
  have ha9 : a < s.heap.size := x_lt hO
  refine lv_aload_n hx hb dX4_init_0 rfl (lv_at hl 0 rfl) ?_
  refine W.objInit hx hb hown (hts (.methodLink RX4 3 objectInit) (by decide +kernel)) (hts (.instanceMethod objectInit) (by decide +kernel)) (hts _ (List.mem_cons_of_mem _ (List.mem_append_left _ (List.mem_of_getElem? (i := 2) rfl)))) rfl (by rw [hml]; exact hl.1) rfl dX4_init_1 (Nat.le_of_ble_eq_true rfl) (Nat.le_of_ble_eq_true rfl) ?_
  refine W.eq (g2 := F0 m 4 ls []) rfl ?_
  refine lv_aload_n hx hb dX4_init_4 rfl (lv_at hl 0 rfl) ?_
  refine lv_bipush (v := 17) hx hb dX4_init_5 (by decide) ?_
  refine xn_i hx hb (hts (.arrayClass .int) (by decide +kernel)) hK hS 17 (by decide) (by decide) (Nat.le_of_ble_eq_true rfl) (Nat.le_of_ble_eq_true rfl) (Nat.le_of_ble_eq_true rfl) dX4_init_7 (fun q1 H hq1 ghq1 hN1 z9 o9 hS => ?_)
  have hlt := x_lt hO
  have hO := va_at.kept hO (o9 _ (x_lt hO))
  refine x_putF hx hb hts h_X4 tyX4 tyX4_ok nmX4 hown hK hO hS (Or.inl rfl) rfl 4 (by decide) (hts (.fieldLink RX4 9 "ConfigBeacon$Layer" "holders" "[I") (by decide +kernel)) (fun _ h => h) rfl hin rfl (tyX4_ok 4 (by decide)) rfl rfl (Nat.le_of_ble_eq_true rfl) dX4_init_9 (fun H locs hO z9 q9 hS => ?_)
  have hO : xO D a 5 [.int 0, .int 0, .int 0, .int 0, .ref q1, .null, .null] H := hO
  have hN1 := x_kept hN1 (q9 _ (by omega))
  refine lv_aload_n hx hb dX4_init_12 rfl (lv_at hl 0 rfl) ?_
  refine lv_bipush (v := 16) hx hb dX4_init_13 (by decide) ?_
  refine xn_q hx hb hown (hts (.classLink RX4 15 "ConfigBeacon$Rollout") (by decide +kernel)) hK.2.2.2.2.1 hK 3 rfl hS 16 (by decide) (by decide) (Nat.le_of_ble_eq_true rfl) (Nat.le_of_ble_eq_true rfl) (Nat.le_of_ble_eq_true rfl) dX4_init_15 (fun q2 H hq2 ghq2 hN2 z9 o9 hS => ?_)
  have hlt := x_lt hO
  have hO := va_at.kept hO (o9 _ (x_lt hO))
  have lhN1 := q_lt hN1
  have hN1 := x_kept hN1 (o9 _ (q_lt hN1))
  refine x_putF hx hb hts h_X4 tyX4 tyX4_ok nmX4 hown hK hO hS (Or.inl rfl) rfl 5 (by decide) (hts (.fieldLink RX4 17 "ConfigBeacon$Layer" "rollouts" "[LConfigBeacon$Rollout;") (by decide +kernel)) (fun _ h => h) rfl hin rfl (tyX4_ok 5 (by decide)) rfl rfl (Nat.le_of_ble_eq_true rfl) dX4_init_18 (fun H locs hO z9 q9 hS => ?_)
  have hO : xO D a 5 [.int 0, .int 0, .int 0, .int 0, .ref q1, .ref q2, .null] H := hO
  have hN1 := x_kept hN1 (q9 _ (by omega))
  have hN2 := x_kept hN2 (q9 _ (by omega))
  refine lv_aload_n hx hb dX4_init_21 rfl (lv_at hl 0 rfl) ?_
  refine lv_bipush (v := 16) hx hb dX4_init_22 (by decide) ?_
  refine xn_i hx hb (hts (.arrayClass .int) (by decide +kernel)) hK hS 16 (by decide) (by decide) (Nat.le_of_ble_eq_true rfl) (Nat.le_of_ble_eq_true rfl) (Nat.le_of_ble_eq_true rfl) dX4_init_24 (fun q3 H hq3 ghq3 hN3 z9 o9 hS => ?_)
  have hlt := x_lt hO
  have hO := va_at.kept hO (o9 _ (x_lt hO))
  have lhN1 := q_lt hN1
  have hN1 := x_kept hN1 (o9 _ (q_lt hN1))
  have lhN2 := q_lt hN2
  have hN2 := x_kept hN2 (o9 _ (q_lt hN2))
  refine x_putF hx hb hts h_X4 tyX4 tyX4_ok nmX4 hown hK hO hS (Or.inl rfl) rfl 6 (by decide) (hts (.fieldLink RX4 21 "ConfigBeacon$Layer" "changes" "[I") (by decide +kernel)) (fun _ h => h) rfl hin rfl (tyX4_ok 6 (by decide)) rfl rfl (Nat.le_of_ble_eq_true rfl) dX4_init_26 (fun H locs hO z9 q9 hS => ?_)
  have hO : xO D a 5 [.int 0, .int 0, .int 0, .int 0, .ref q1, .ref q2, .ref q3] H := hO
  have hN1 := x_kept hN1 (q9 _ (by omega))
  have hN2 := x_kept hN2 (q9 _ (by omega))
  have hN3 := x_kept hN3 (q9 _ (by omega))
  refine lv_aload_n hx hb dX4_init_29 rfl (lv_at hl 0 rfl) ?_
  refine lv_iload_n hx hb dX4_init_30 rfl (lv_at hl 1 rfl) ?_
  refine x_putF hx hb hts h_X4 tyX4 tyX4_ok nmX4 hown hK hO hS (Or.inl rfl) rfl 0 (by decide) (hts (.fieldLink RX4 24 "ConfigBeacon$Layer" "number" "I") (by decide +kernel)) (fun _ h => h) rfl hin rfl (tyX4_ok 0 (by decide)) rfl rfl (Nat.le_of_ble_eq_true rfl) dX4_init_31 (fun H locs hO z9 q9 hS => ?_)
  have hO : xO D a 5 [.int num, .int 0, .int 0, .int 0, .ref q1, .ref q2, .ref q3] H := hO
  have hN1 := x_kept hN1 (q9 _ (by omega))
  have hN2 := x_kept hN2 (q9 _ (by omega))
  have hN3 := x_kept hN3 (q9 _ (by omega))
  refine lv_aload_n hx hb dX4_init_34 rfl (lv_at hl 0 rfl) ?_
  refine lv_iload_n hx hb dX4_init_35 rfl (lv_at hl 2 rfl) ?_
  refine x_put hx hb hts h_X4 tyX4 tyX4_ok nmX4 hown hK hO hS (Or.inl rfl) rfl 3 (by decide) (hts (.fieldLink RX4 28 "ConfigBeacon$Layer" "precedence" "I") (by decide +kernel)) (fun _ h => h) rfl (tyX4_ok 3 (by decide)) rfl rfl (Nat.le_of_ble_eq_true rfl) dX4_init_36 (fun H locs hO z9 q9 hS => ?_)
  have hO : xO D a 5 [.int num, .int 0, .int 0, .int pre9, .ref q1, .ref q2, .ref q3] H := hO
  have hN1 := x_kept hN1 (q9 _ (by omega))
  have hN2 := x_kept hN2 (q9 _ (by omega))
  have hN3 := x_kept hN3 (q9 _ (by omega))
  refine lv_aload_n hx hb dX4_init_39 rfl (lv_at hl 0 rfl) ?_
  refine lv_iload_n hx hb dX4_init_40 rfl (lv_at hl 3 rfl) ?_
  refine x_putF hx hb hts h_X4 tyX4 tyX4_ok nmX4 hown hK hO hS (Or.inl rfl) rfl 1 (by decide) (hts (.fieldLink RX4 31 "ConfigBeacon$Layer" "selector" "I") (by decide +kernel)) (fun _ h => h) rfl hin rfl (tyX4_ok 1 (by decide)) rfl rfl (Nat.le_of_ble_eq_true rfl) dX4_init_41 (fun H locs hO z9 q9 hS => ?_)
  have hO : xO D a 5 [.int num, .int sel, .int 0, .int pre9, .ref q1, .ref q2, .ref q3] H := hO
  have hN1 := x_kept hN1 (q9 _ (by omega))
  have hN2 := x_kept hN2 (q9 _ (by omega))
  have hN3 := x_kept hN3 (q9 _ (by omega))
  refine lv_aload_n hx hb dX4_init_44 rfl (lv_at hl 0 rfl) ?_
  refine lv_iload hx hb dX4_init_45 (lv_at hl 4 rfl) ?_
  refine x_putF hx hb hts h_X4 tyX4 tyX4_ok nmX4 hown hK hO hS (Or.inl rfl) rfl 2 (by decide) (hts (.fieldLink RX4 34 "ConfigBeacon$Layer" "which" "I") (by decide +kernel)) (fun _ h => h) rfl hin rfl (tyX4_ok 2 (by decide)) rfl rfl (Nat.le_of_ble_eq_true rfl) dX4_init_47 (fun H locs hO z9 q9 hS => ?_)
  have hO : xO D a 5 [.int num, .int sel, .int whi, .int pre9, .ref q1, .ref q2, .ref q3] H := hO
  have hN1 := x_kept hN1 (q9 _ (by omega))
  have hN2 := x_kept hN2 (q9 _ (by omega))
  have hN3 := x_kept hN3 (q9 _ (by omega))
  exact xw_vret hx hb hr hlocks hS ⟨rfl, q1, q2, q3, by rw [← hH9]; exact ghq1, by omega, by omega, q_lt hN3, hO, hN1, hN2, hN3⟩ (Nat.le_refl _) (Nat.le_refl _) dX4_init_50
