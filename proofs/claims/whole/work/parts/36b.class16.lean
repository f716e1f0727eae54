set_option maxHeartbeats 4000000 in
set_option maxRecDepth 100000 in
theorem c_X6_checkThere (l : Launch) (hst : l.stackTraces = false) (D : va_G) (cA : Nat → ClassId) (A : Nat → Prop) (b : Bool) (v : Int32) (hbv : v = bI b) : vx_Met l yX6_checkThere wsX6_checkThere (rmK 2 1 6) (xPX D cA (fun U => tK A U) [.int v] (fun _ => True)) (ckQ b) (ckX b eI) 1 6 (fun _ => False) := by
  refine vx_ofW (cc := cX6_checkThere) (maxL := 1) (ret := none) (by decide) rfl ?_
  intro p e s m args below meth c s₁ B hml ht hv
  obtain ⟨rfl, ⟨hK, hX⟩, hI⟩ := hv
  have hx := B.exec
  have hb := B.bytes
  have hr := B.returns
  have hts := atoms_spec (ws := wsX6_checkThere) B.pre
  have hown : s.vm.findClass RX6 = some m.cls := findClass_of_methodNamed B.named
  have hlocks := B.notSynchronized
  subst hbv
  have hl := lv_entry ([.int (bI b)]) (n := 1) (Nat.le_of_ble_eq_true rfl)
  rw [lg_entry_eq]
  generalize (lg_sl ([.int (bI b)]) ++ List.replicate (1 - (lg_sl ([.int (bI b)])).length) Slot.unset).toArray = ls at hl ⊢
  have hl : lv_has ls 1 [(0, .int (bI b))] := hl
  obtain ⟨hXu, hXn, ⟨tx1, hx1⟩, ⟨tx2, hx2⟩, ⟨tx3, hx3⟩, ⟨tx4, hx4⟩, ⟨tx5, hx5⟩, ⟨tx6, hx6⟩, hXd, hXs⟩ := hX
  have hS : va_S A s.heap s.heap [] := va_S.rf
  refine lv_iload_n hx hb dX6_checkThere_0 rfl (lv_at hl 0 rfl) ?_
  refine xb_ne (tgt := 14) hx hb dX6_checkThere_1 (by decide) (fun hb1 => ?_) (fun hb0 => ?_)
  · refine vx_ret ?_
    refine W.widen (k := 1) (n := 6) (Nat.zero_le _) (Nat.zero_le _) ?_
    exact W.vret hx hb hr (fun t ht9 _ => ⟨rfl, hb1, ht9⟩) (fun q h => nomatch h) dX6_checkThere_14
  · exact vx_throwS hx hb hst hown (cls := "java/lang/IndexOutOfBoundsException") (names := ["java/lang/RuntimeException", "java/lang/Exception"]) (by decide +kernel) (by decide +kernel) (hts (.classLink RX6 99 "java/lang/IndexOutOfBoundsException") (by decide +kernel)) (hts (.initialized "java/lang/IndexOutOfBoundsException") (by decide +kernel)) hx1 (vx_hat (B := [.declares (Bundle.initS "java/lang/RuntimeException"), .declares (Bundle.initS "java/lang/Exception"), .declares (Bundle.initS "java/lang/Throwable"), .castable "java/lang/IndexOutOfBoundsException" "java/lang/IndexOutOfBoundsException"]) (fun w h => hts w (List.mem_cons_of_mem _ (List.mem_append_right _ h))) (by decide +kernel) (vx_c (va_Nw.use rfl (hXd "java/lang/RuntimeException" (by decide))) (vx_c (va_Nw.use rfl (hXd "java/lang/Exception" (by decide))) (vx_c (va_Nw.use rfl (hXd "java/lang/Throwable" (by decide))) (vx_c (va_Nw.use rfl (hXs "java/lang/IndexOutOfBoundsException" (by decide))) vx_n))))) (by decide +kernel) hXu hXn hS (hl.1.trans hml.symm) dX6_checkThere_4 dX6_checkThere_7 dX6_checkThere_8 dX6_checkThere_10 dX6_checkThere_13 (fun x hx => (ht x hx).elim) (by decide) (by decide) (Nat.le_of_ble_eq_true rfl) (Nat.le_of_ble_eq_true rfl) hlocks (fun t hv hz hk => ⟨rfl, hb0, hz, hk⟩) (fun z h => nomatch h) (Nat.le_of_ble_eq_true rfl) (Nat.le_of_ble_eq_true rfl)
set_option maxHeartbeats 4000000 in
set_option maxRecDepth 100000 in
theorem c_X6_checkArgument (l : Launch) (hst : l.stackTraces = false) (D : va_G) (cA : Nat → ClassId) (A : Nat → Prop) (b : Bool) (v : Int32) (hbv : v = bI b) : vx_Met l yX6_checkArgument wsX6_checkArgument (rmK 2 1 6) (xPX D cA (fun U => tK A U) [.int v] (fun _ => True)) (ckQ b) (ckX b eA) 1 6 (fun _ => False) := by
  refine vx_ofW (cc := cX6_checkArgument) (maxL := 1) (ret := none) (by decide) rfl ?_
  intro p e s m args below meth c s₁ B hml ht hv
  obtain ⟨rfl, ⟨hK, hX⟩, hI⟩ := hv
  have hx := B.exec
  have hb := B.bytes
  have hr := B.returns
  have hts := atoms_spec (ws := wsX6_checkArgument) B.pre
  have hown : s.vm.findClass RX6 = some m.cls := findClass_of_methodNamed B.named
  have hlocks := B.notSynchronized
  subst hbv
  have hl := lv_entry ([.int (bI b)]) (n := 1) (Nat.le_of_ble_eq_true rfl)
  rw [lg_entry_eq]
  generalize (lg_sl ([.int (bI b)]) ++ List.replicate (1 - (lg_sl ([.int (bI b)])).length) Slot.unset).toArray = ls at hl ⊢
  have hl : lv_has ls 1 [(0, .int (bI b))] := hl
  obtain ⟨hXu, hXn, ⟨tx1, hx1⟩, ⟨tx2, hx2⟩, ⟨tx3, hx3⟩, ⟨tx4, hx4⟩, ⟨tx5, hx5⟩, ⟨tx6, hx6⟩, hXd, hXs⟩ := hX
  have hS : va_S A s.heap s.heap [] := va_S.rf
  refine lv_iload_n hx hb dX6_checkArgument_0 rfl (lv_at hl 0 rfl) ?_
  refine xb_ne (tgt := 14) hx hb dX6_checkArgument_1 (by decide) (fun hb1 => ?_) (fun hb0 => ?_)
  · refine vx_ret ?_
    refine W.widen (k := 1) (n := 6) (Nat.zero_le _) (Nat.zero_le _) ?_
    exact W.vret hx hb hr (fun t ht9 _ => ⟨rfl, hb1, ht9⟩) (fun q h => nomatch h) dX6_checkArgument_14
  · exact vx_throwS hx hb hst hown (cls := "java/lang/IllegalArgumentException") (names := ["java/lang/RuntimeException", "java/lang/Exception"]) (by decide +kernel) (by decide +kernel) (hts (.classLink RX6 244 "java/lang/IllegalArgumentException") (by decide +kernel)) (hts (.initialized "java/lang/IllegalArgumentException") (by decide +kernel)) hx2 (vx_hat (B := [.declares (Bundle.initS "java/lang/RuntimeException"), .declares (Bundle.initS "java/lang/Exception"), .declares (Bundle.initS "java/lang/Throwable"), .castable "java/lang/IllegalArgumentException" "java/lang/IllegalArgumentException"]) (fun w h => hts w (List.mem_cons_of_mem _ (List.mem_append_right _ h))) (by decide +kernel) (vx_c (va_Nw.use rfl (hXd "java/lang/RuntimeException" (by decide))) (vx_c (va_Nw.use rfl (hXd "java/lang/Exception" (by decide))) (vx_c (va_Nw.use rfl (hXd "java/lang/Throwable" (by decide))) (vx_c (va_Nw.use rfl (hXs "java/lang/IllegalArgumentException" (by decide))) vx_n))))) (by decide +kernel) hXu hXn hS (hl.1.trans hml.symm) dX6_checkArgument_4 dX6_checkArgument_7 dX6_checkArgument_8 dX6_checkArgument_10 dX6_checkArgument_13 (fun x hx => (ht x hx).elim) (by decide) (by decide) (Nat.le_of_ble_eq_true rfl) (Nat.le_of_ble_eq_true rfl) hlocks (fun t hv hz hk => ⟨rfl, hb0, hz, hk⟩) (fun z h => nomatch h) (Nat.le_of_ble_eq_true rfl) (Nat.le_of_ble_eq_true rfl)
set_option maxHeartbeats 4000000 in
set_option maxRecDepth 100000 in
theorem c_X6_checkState (l : Launch) (hst : l.stackTraces = false) (D : va_G) (cA : Nat → ClassId) (A : Nat → Prop) (b : Bool) (v : Int32) (hbv : v = bI b) : vx_Met l yX6_checkState wsX6_checkState (rmK 2 1 6) (xPX D cA (fun U => tK A U) [.int v] (fun _ => True)) (ckQ b) (ckX b eS) 1 6 (fun _ => False) := by
  refine vx_ofW (cc := cX6_checkState) (maxL := 1) (ret := none) (by decide) rfl ?_
  intro p e s m args below meth c s₁ B hml ht hv
  obtain ⟨rfl, ⟨hK, hX⟩, hI⟩ := hv
  have hx := B.exec
  have hb := B.bytes
  have hr := B.returns
  have hts := atoms_spec (ws := wsX6_checkState) B.pre
  have hown : s.vm.findClass RX6 = some m.cls := findClass_of_methodNamed B.named
  have hlocks := B.notSynchronized
  subst hbv
  have hl := lv_entry ([.int (bI b)]) (n := 1) (Nat.le_of_ble_eq_true rfl)
  rw [lg_entry_eq]
  generalize (lg_sl ([.int (bI b)]) ++ List.replicate (1 - (lg_sl ([.int (bI b)])).length) Slot.unset).toArray = ls at hl ⊢
  have hl : lv_has ls 1 [(0, .int (bI b))] := hl
  obtain ⟨hXu, hXn, ⟨tx1, hx1⟩, ⟨tx2, hx2⟩, ⟨tx3, hx3⟩, ⟨tx4, hx4⟩, ⟨tx5, hx5⟩, ⟨tx6, hx6⟩, hXd, hXs⟩ := hX
  have hS : va_S A s.heap s.heap [] := va_S.rf
  refine lv_iload_n hx hb dX6_checkState_0 rfl (lv_at hl 0 rfl) ?_
  refine xb_ne (tgt := 14) hx hb dX6_checkState_1 (by decide) (fun hb1 => ?_) (fun hb0 => ?_)
  · refine vx_ret ?_
    refine W.widen (k := 1) (n := 6) (Nat.zero_le _) (Nat.zero_le _) ?_
    exact W.vret hx hb hr (fun t ht9 _ => ⟨rfl, hb1, ht9⟩) (fun q h => nomatch h) dX6_checkState_14
  · exact vx_throwS hx hb hst hown (cls := "java/lang/IllegalStateException") (names := ["java/lang/RuntimeException", "java/lang/Exception"]) (by decide +kernel) (by decide +kernel) (hts (.classLink RX6 159 "java/lang/IllegalStateException") (by decide +kernel)) (hts (.initialized "java/lang/IllegalStateException") (by decide +kernel)) hx3 (vx_hat (B := [.declares (Bundle.initS "java/lang/RuntimeException"), .declares (Bundle.initS "java/lang/Exception"), .declares (Bundle.initS "java/lang/Throwable"), .castable "java/lang/IllegalStateException" "java/lang/IllegalStateException"]) (fun w h => hts w (List.mem_cons_of_mem _ (List.mem_append_right _ h))) (by decide +kernel) (vx_c (va_Nw.use rfl (hXd "java/lang/RuntimeException" (by decide))) (vx_c (va_Nw.use rfl (hXd "java/lang/Exception" (by decide))) (vx_c (va_Nw.use rfl (hXd "java/lang/Throwable" (by decide))) (vx_c (va_Nw.use rfl (hXs "java/lang/IllegalStateException" (by decide))) vx_n))))) (by decide +kernel) hXu hXn hS (hl.1.trans hml.symm) dX6_checkState_4 dX6_checkState_7 dX6_checkState_8 dX6_checkState_10 dX6_checkState_13 (fun x hx => (ht x hx).elim) (by decide) (by decide) (Nat.le_of_ble_eq_true rfl) (Nat.le_of_ble_eq_true rfl) hlocks (fun t hv hz hk => ⟨rfl, hb0, hz, hk⟩) (fun z h => nomatch h) (Nat.le_of_ble_eq_true rfl) (Nat.le_of_ble_eq_true rfl)
