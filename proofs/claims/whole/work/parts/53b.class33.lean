set_option maxHeartbeats 4000000 in
set_option maxRecDepth 100000 in
theorem c_Jx4a65c_init_da8c8 (l : Launch) (D : va_G) (cA : Nat → ClassId) (a z : Nat) (H9 : Heap) : Met l yJx4a65c_init_da8c8 wsJx4a65c_init_da8c8 (rmK 2 0 0) (xPX D cA (fun U => zK (fun q => q = a) z U) [.ref a] (fun H => H = H9 ∧ xO D a 0 [.int 0, .null, .int 0] H)) (xW (xV none (fun H => xO D a 0 [.int 0, .ref z, .int 0] H)) (fun q => q = a)) 0 0 (fun q => q = a) := by
  refine Met.ofW (cc := cJx4a65c_init_da8c8) (maxL := 1) (ret := none) (by decide) rfl ?_
  intro p e s m args below meth c s₁ B hml hv
  obtain ⟨rfl, ⟨hK, hX⟩, hI⟩ := hv
  have hx := B.exec
  have hb := B.bytes
  have hr := B.returns
  have hts := atoms_spec (ws := wsJx4a65c_init_da8c8) B.pre
  have hown : s.vm.findClass RJx4a65c = some m.cls := findClass_of_methodNamed B.named
  have hlocks := B.notSynchronized
  have hin : meth.name = "<init>" := (name_of_methodNamed B.named B.method).1
  have hl := lv_entry ([.ref a]) (n := 1) (Nat.le_of_ble_eq_true rfl)
  rw [lg_entry_eq]
  generalize (lg_sl ([.ref a]) ++ List.replicate (1 - (lg_sl ([.ref a])).length) Slot.unset).toArray = ls at hl ⊢
  have hl : lv_has ls 1 [(0, .ref a)] := hl
  have h_Jx4a65c : ∀ w ∈ wsJx4a65c0, w ∈ wsJx4a65c_init_da8c8 := fun _ h => List.mem_cons_of_mem _ (List.mem_append_right _ h)
  obtain ⟨hH9, hO⟩ := hI
  subst hH9
  have hS : va_S (fun q => q = a) s.heap s.heap [] := va_S.rf
  refine lv_aload_n hx hb dJx4a65c_init_da8c8_0 rfl (lv_at hl 0 rfl) ?_
  refine xw_calln (va_runI (As := []) (rest := []) ⟨hx, hb, hml, hown, hts⟩ (c_Jxc12de_init_da8c8 l D cA a 0 .null (.int 0)) (cwI 0 hts gJx4a65c_init_da8c8_Jxc12de_init_da8c8 rfl rfl rfl (hts (.initialized RJxc12de) (by decide +kernel)) (hts (.methodLink RJx4a65c 1 yJxc12de_init_da8c8) (by decide +kernel)) (hts (.instanceMethod yJxc12de_init_da8c8) (by decide +kernel)) rfl (by decide +kernel) ⟨Nat.le_of_ble_eq_true rfl, Nat.le_of_ble_eq_true rfl⟩) (xPS hK hO) rfl rfl hl.1 rfl (lv_room (Nat.le_of_ble_eq_true rfl)) dJx4a65c_init_da8c8_1 ⟨Nat.le_of_ble_eq_true rfl, Nat.le_of_ble_eq_true rfl⟩) hS (fun _ _ h => h) (fun _ h => h) (fun H locs hO z9 q9 hS => ?_)
  refine lv_aload_n hx hb dJx4a65c_init_da8c8_4 rfl (lv_at hl 0 rfl) ?_
  refine va_gets hx hb hX.1 hS hown (hts (.fieldLink RJx4a65c 39 "java/util/ArrayList" "DEFAULTCAPACITY_EMPTY_ELEMENTDATA" "[Ljava/lang/Object;") (by decide +kernel)) (fun _ h => h) dJx4a65c_init_da8c8_5 ?_
  refine x_put hx hb hts h_Jx4a65c tyJx4a65c tyJx4a65c_ok nmJx4a65c hown hK hO hS rfl rfl 1 (by decide) (hts (.fieldLink RJx4a65c 9 "java/util/ArrayList" "elementData" "[Ljava/lang/Object;") (by decide +kernel)) (fun _ h => h) rfl (tyJx4a65c_ok 1 (by decide)) rfl rfl (Nat.le_of_ble_eq_true rfl) dJx4a65c_init_da8c8_8 (fun H locs hO z9 q9 hS => ?_)
  exact xw_vret hx hb hr hlocks hS ⟨rfl, hO⟩ (Nat.le_refl _) (Nat.le_refl _) dJx4a65c_init_da8c8_11
set_option maxHeartbeats 4000000 in
set_option maxRecDepth 100000 in
theorem c_X6_init (l : Launch) (D : va_G) (cA : Nat → ClassId) (a z : Nat) (A : Nat → Prop) (f : Nat → Nat → Int32) (hf : ∀ k, k < 128 → f 12 k = 0) (H9 : Heap) (hAa : A a) (hAn : ∀ q, H9.size ≤ q → A q) : Met l yX6_init wsX6_init (rmK 6 9 1200) (xPX D cA (fun U => zK A z U) [.ref a] (fun H => H = H9 ∧ xO D a 7 [.null, .null, .null, .null, .null] H)) (xW (xV none (fun H => CS D cA A z a f 0 0 0 H)) A) 9 1200 A := by
  refine Met.ofW (cc := cX6_init) (maxL := 1) (ret := none) (by decide) rfl ?_
  intro p e s m args below meth c s₁ B hml hv
  obtain ⟨rfl, ⟨hK, hX⟩, hI⟩ := hv
  have hx := B.exec
  have hb := B.bytes
  have hr := B.returns
  have hts := atoms_spec (ws := wsX6_init) B.pre
  have hown : s.vm.findClass RX6 = some m.cls := findClass_of_methodNamed B.named
  have hlocks := B.notSynchronized
  have hin : meth.name = "<init>" := (name_of_methodNamed B.named B.method).1
  have hl := lv_entry ([.ref a]) (n := 1) (Nat.le_of_ble_eq_true rfl)
  rw [lg_entry_eq]
  generalize (lg_sl ([.ref a]) ++ List.replicate (1 - (lg_sl ([.ref a])).length) Slot.unset).toArray = ls at hl ⊢
  have hl : lv_has ls 1 [(0, .ref a)] := hl
  have h_X1 : ∀ w ∈ wsX10, w ∈ wsX6_init := fun _ h => List.mem_cons_of_mem _ (List.mem_append_right _ h)
  have h_X3 : ∀ w ∈ wsX30, w ∈ wsX6_init := fun _ h => List.mem_cons_of_mem _ (List.mem_append_left _ (List.mem_append_right _ h))
  have h_X6 : ∀ w ∈ wsX60, w ∈ wsX6_init := fun _ h => List.mem_cons_of_mem _ (List.mem_append_left _ (List.mem_append_left _ (List.mem_append_right _ h)))
  have h_Jx4a65c : ∀ w ∈ wsJx4a65c0, w ∈ wsX6_init := fun _ h => List.mem_cons_of_mem _ (List.mem_append_left _ (List.mem_append_left _ (List.mem_append_left _ (List.mem_append_right _ h))))
  obtain ⟨hH9, hO⟩ := hI
  subst hH9
  have hS : va_S A s.heap s.heap [] := va_S.rf
  have ha9 := x_lt hO
  refine lv_aload_n hx hb dX6_init_0 rfl (lv_at hl 0 rfl) ?_
  refine W.objInit hx hb hown (hts (.methodLink RX6 1 objectInit) (by decide +kernel)) (hts (.instanceMethod objectInit) (by decide +kernel)) (hts _ (List.mem_cons_of_mem _ (List.mem_append_left _ (List.mem_append_left _ (List.mem_append_left _ (List.mem_append_left _ (List.mem_append_left _ (List.mem_of_getElem? (i := 2) rfl)))))))) rfl (by rw [hml]; exact hl.1) rfl dX6_init_1 (Nat.le_of_ble_eq_true rfl) (Nat.le_of_ble_eq_true rfl) ?_
  refine W.eq (g2 := F0 m 4 ls []) rfl ?_
  refine lv_aload_n hx hb dX6_init_4 rfl (lv_at hl 0 rfl) ?_
  refine xn_o (ci := 0) hx hb hts h_Jx4a65c tyJx4a65c tyJx4a65c_ok hown (hts (.classLink RX6 7 RJx4a65c) (by decide +kernel)) (hts (.instantiable RJx4a65c 3) (by decide +kernel)) (hts (.initialized RJx4a65c) (by decide +kernel)) hK hS rfl [.int 0, .null, .int 0] (fun j hj => by rcases (show j = 0 ∨ j = 1 ∨ j = 2 from by omega) with rfl | rfl | rfl <;> rfl) (Nat.le_of_ble_eq_true rfl) (Nat.le_of_ble_eq_true rfl) dX6_init_5 (fun q1 H hq gq1 hN1 zN oN hS => ?_)
  have hAq1 : A q1 := hAn _ gq1
  have lt_a_q1 : a < q1 := by rw [hq]; exact (x_lt hO)
  have hO := va_at.kept hO (oN _ (x_lt hO))
  refine lv_dup hx hb dX6_init_8 rfl ?_
  refine xw_calln (va_runI (As := []) (rest := [.ref q1, .ref a]) ⟨hx, hb, hml, hown, hts⟩ (c_Jx4a65c_init_da8c8 l D cA q1 z H) (cwI 0 hts gX6_init_Jx4a65c_init_da8c8 rfl rfl rfl (hts (.initialized RJx4a65c) (by decide +kernel)) (hts (.methodLink RX6 9 yJx4a65c_init_da8c8) (by decide +kernel)) (hts (.instanceMethod yJx4a65c_init_da8c8) (by decide +kernel)) rfl (by decide +kernel) ⟨Nat.le_of_ble_eq_true rfl, Nat.le_of_ble_eq_true rfl⟩) (xPXS hK zK.blind (fun U hU hW => hX.at hS (fun x h => by rw [show x = q1 from h]; exact hAq1) hU hW) ⟨rfl, hN1⟩) rfl rfl hl.1 rfl (lv_room (Nat.le_of_ble_eq_true rfl)) dX6_init_9 ⟨Nat.le_of_ble_eq_true rfl, Nat.le_of_ble_eq_true rfl⟩) hS (fun x _ h => by rw [show x = q1 from h]; exact hAq1) (fun x h => by rw [show x = q1 from h]; exact hAq1) (fun H locs hN1 z9 q9 hS => ?_)
  have hO := va_at.kept hO (q9 _ (x_lt hO) (show ¬ a = q1 from by omega))
  refine x_putF hx hb hts h_X6 tyX6 tyX6_ok nmX6 hown hK hO hS hAa rfl 0 (by decide) (hts (.fieldLink RX6 10 "ConfigBeacon" "allClients" "Ljava/util/ArrayList;") (by decide +kernel)) (fun _ h => h) rfl hin rfl (tyX6_ok 0 (by decide)) rfl rfl (Nat.le_of_ble_eq_true rfl) dX6_init_12 (fun H locs hO z9 q9 hS => ?_)
  have hO : xO D a 7 [.ref q1, .null, .null, .null, .null] H := hO
  have hN1 := va_at.kept hN1 (q9 _ (show q1 ≠ a from by omega))
  refine lv_aload_n hx hb dX6_init_15 rfl (lv_at hl 0 rfl) ?_
  refine xn_o (ci := 0) hx hb hts h_Jx4a65c tyJx4a65c tyJx4a65c_ok hown (hts (.classLink RX6 7 RJx4a65c) (by decide +kernel)) (hts (.instantiable RJx4a65c 3) (by decide +kernel)) (hts (.initialized RJx4a65c) (by decide +kernel)) hK hS rfl [.int 0, .null, .int 0] (fun j hj => by rcases (show j = 0 ∨ j = 1 ∨ j = 2 from by omega) with rfl | rfl | rfl <;> rfl) (Nat.le_of_ble_eq_true rfl) (Nat.le_of_ble_eq_true rfl) dX6_init_16 (fun q2 H hq gq2 hN2 zN oN hS => ?_)
  have hAq2 : A q2 := hAn _ gq2
  have lt_a_q2 : a < q2 := by rw [hq]; exact (x_lt hO)
  have hO := va_at.kept hO (oN _ (x_lt hO))
  have lt_q1_q2 : q1 < q2 := by rw [hq]; exact (x_lt hN1)
  have hN1 := va_at.kept hN1 (oN _ (x_lt hN1))
  refine lv_dup hx hb dX6_init_19 rfl ?_
  refine xw_calln (va_runI (As := []) (rest := [.ref q2, .ref a]) ⟨hx, hb, hml, hown, hts⟩ (c_Jx4a65c_init_da8c8 l D cA q2 z H) (cwI 0 hts gX6_init_Jx4a65c_init_da8c8 rfl rfl rfl (hts (.initialized RJx4a65c) (by decide +kernel)) (hts (.methodLink RX6 9 yJx4a65c_init_da8c8) (by decide +kernel)) (hts (.instanceMethod yJx4a65c_init_da8c8) (by decide +kernel)) rfl (by decide +kernel) ⟨Nat.le_of_ble_eq_true rfl, Nat.le_of_ble_eq_true rfl⟩) (xPXS hK zK.blind (fun U hU hW => hX.at hS (fun x h => by rw [show x = q2 from h]; exact hAq2) hU hW) ⟨rfl, hN2⟩) rfl rfl hl.1 rfl (lv_room (Nat.le_of_ble_eq_true rfl)) dX6_init_20 ⟨Nat.le_of_ble_eq_true rfl, Nat.le_of_ble_eq_true rfl⟩) hS (fun x _ h => by rw [show x = q2 from h]; exact hAq2) (fun x h => by rw [show x = q2 from h]; exact hAq2) (fun H locs hN2 z9 q9 hS => ?_)
  have hO := va_at.kept hO (q9 _ (x_lt hO) (show ¬ a = q2 from by omega))
  have hN1 := va_at.kept hN1 (q9 _ (x_lt hN1) (show ¬ q1 = q2 from by omega))
  refine x_putF hx hb hts h_X6 tyX6 tyX6_ok nmX6 hown hK hO hS hAa rfl 1 (by decide) (hts (.fieldLink RX6 16 "ConfigBeacon" "allLayers" "Ljava/util/ArrayList;") (by decide +kernel)) (fun _ h => h) rfl hin rfl (tyX6_ok 1 (by decide)) rfl rfl (Nat.le_of_ble_eq_true rfl) dX6_init_23 (fun H locs hO z9 q9 hS => ?_)
  have hO : xO D a 7 [.ref q1, .ref q2, .null, .null, .null] H := hO
  have hN1 := va_at.kept hN1 (q9 _ (show q1 ≠ a from by omega))
  have hN2 := va_at.kept hN2 (q9 _ (show q2 ≠ a from by omega))
  refine lv_aload_n hx hb dX6_init_26 rfl (lv_at hl 0 rfl) ?_
  refine xn_o (ci := 0) hx hb hts h_Jx4a65c tyJx4a65c tyJx4a65c_ok hown (hts (.classLink RX6 7 RJx4a65c) (by decide +kernel)) (hts (.instantiable RJx4a65c 3) (by decide +kernel)) (hts (.initialized RJx4a65c) (by decide +kernel)) hK hS rfl [.int 0, .null, .int 0] (fun j hj => by rcases (show j = 0 ∨ j = 1 ∨ j = 2 from by omega) with rfl | rfl | rfl <;> rfl) (Nat.le_of_ble_eq_true rfl) (Nat.le_of_ble_eq_true rfl) dX6_init_27 (fun q3 H hq gq3 hN3 zN oN hS => ?_)
  have hAq3 : A q3 := hAn _ gq3
  have lt_a_q3 : a < q3 := by rw [hq]; exact (x_lt hO)
  have hO := va_at.kept hO (oN _ (x_lt hO))
  have lt_q1_q3 : q1 < q3 := by rw [hq]; exact (x_lt hN1)
  have hN1 := va_at.kept hN1 (oN _ (x_lt hN1))
  have lt_q2_q3 : q2 < q3 := by rw [hq]; exact (x_lt hN2)
  have hN2 := va_at.kept hN2 (oN _ (x_lt hN2))
  refine lv_dup hx hb dX6_init_30 rfl ?_
  refine xw_calln (va_runI (As := []) (rest := [.ref q3, .ref a]) ⟨hx, hb, hml, hown, hts⟩ (c_Jx4a65c_init_da8c8 l D cA q3 z H) (cwI 0 hts gX6_init_Jx4a65c_init_da8c8 rfl rfl rfl (hts (.initialized RJx4a65c) (by decide +kernel)) (hts (.methodLink RX6 9 yJx4a65c_init_da8c8) (by decide +kernel)) (hts (.instanceMethod yJx4a65c_init_da8c8) (by decide +kernel)) rfl (by decide +kernel) ⟨Nat.le_of_ble_eq_true rfl, Nat.le_of_ble_eq_true rfl⟩) (xPXS hK zK.blind (fun U hU hW => hX.at hS (fun x h => by rw [show x = q3 from h]; exact hAq3) hU hW) ⟨rfl, hN3⟩) rfl rfl hl.1 rfl (lv_room (Nat.le_of_ble_eq_true rfl)) dX6_init_31 ⟨Nat.le_of_ble_eq_true rfl, Nat.le_of_ble_eq_true rfl⟩) hS (fun x _ h => by rw [show x = q3 from h]; exact hAq3) (fun x h => by rw [show x = q3 from h]; exact hAq3) (fun H locs hN3 z9 q9 hS => ?_)
  have hO := va_at.kept hO (q9 _ (x_lt hO) (show ¬ a = q3 from by omega))
  have hN1 := va_at.kept hN1 (q9 _ (x_lt hN1) (show ¬ q1 = q3 from by omega))
  have hN2 := va_at.kept hN2 (q9 _ (x_lt hN2) (show ¬ q2 = q3 from by omega))
  refine x_putF hx hb hts h_X6 tyX6 tyX6_ok nmX6 hown hK hO hS hAa rfl 2 (by decide) (hts (.fieldLink RX6 19 "ConfigBeacon" "versions" "Ljava/util/ArrayList;") (by decide +kernel)) (fun _ h => h) rfl hin rfl (tyX6_ok 2 (by decide)) rfl rfl (Nat.le_of_ble_eq_true rfl) dX6_init_34 (fun H locs hO z9 q9 hS => ?_)
  have hO : xO D a 7 [.ref q1, .ref q2, .ref q3, .null, .null] H := hO
  have hN1 := va_at.kept hN1 (q9 _ (show q1 ≠ a from by omega))
  have hN2 := va_at.kept hN2 (q9 _ (show q2 ≠ a from by omega))
  have hN3 := va_at.kept hN3 (q9 _ (show q3 ≠ a from by omega))
  refine lv_aload_n hx hb dX6_init_37 rfl (lv_at hl 0 rfl) ?_
  refine xn_o (ci := 4) hx hb hts h_X3 tyX3 tyX3_ok hown (hts (.classLink RX6 22 RX3) (by decide +kernel)) (hts (.instantiable RX3 9) (by decide +kernel)) (hts (.initialized RX3) (by decide +kernel)) hK hS rfl [.null, .int 0, .null, .int 0, .int 0, .int 0, .int 0, .int 0, .int 0] (fun j hj => by rcases (show j = 0 ∨ j = 1 ∨ j = 2 ∨ j = 3 ∨ j = 4 ∨ j = 5 ∨ j = 6 ∨ j = 7 ∨ j = 8 from by omega) with rfl | rfl | rfl | rfl | rfl | rfl | rfl | rfl | rfl <;> rfl) (Nat.le_of_ble_eq_true rfl) (Nat.le_of_ble_eq_true rfl) dX6_init_38 (fun q4 H hq gq4 hN4 zN oN hS => ?_)
  have hAq4 : A q4 := hAn _ gq4
  have lt_a_q4 : a < q4 := by rw [hq]; exact (x_lt hO)
  have hO := va_at.kept hO (oN _ (x_lt hO))
  have lt_q1_q4 : q1 < q4 := by rw [hq]; exact (x_lt hN1)
  have hN1 := va_at.kept hN1 (oN _ (x_lt hN1))
  have lt_q2_q4 : q2 < q4 := by rw [hq]; exact (x_lt hN2)
  have hN2 := va_at.kept hN2 (oN _ (x_lt hN2))
  have lt_q3_q4 : q3 < q4 := by rw [hq]; exact (x_lt hN3)
  have hN3 := va_at.kept hN3 (oN _ (x_lt hN3))
  refine lv_dup hx hb dX6_init_41 rfl ?_
  have hsz0 := hS.1
  have ltn := x_lt hN4
  refine xw_calln (va_runIN (As := []) (rest := [.ref q4, .ref a]) ⟨hx, hb, hml, hown, hts⟩ (c_X3_init l D cA q4 H) ⟨va_cnB 0 hts gX6_init_X3_init_n24 rfl rfl rfl (hK.2.1 ("ConfigBeacon", 24, yX3_init) (by decide)) (hts (.initialized RX3) (by decide +kernel)) (by decide +kernel) ⟨Nat.le_of_ble_eq_true rfl, Nat.le_of_ble_eq_true rfl⟩, rfl, hts (.instanceMethod yX3_init) (by decide +kernel)⟩ (xPS hK ⟨rfl, hN4⟩) rfl rfl hl.1 rfl (lv_room (Nat.le_of_ble_eq_true rfl)) dX6_init_42 ⟨Nat.le_of_ble_eq_true rfl, Nat.le_of_ble_eq_true rfl⟩) hS (fun x _ h => h.elim (fun e => by rw [e]; exact hAq4) (fun e => hAn _ (Nat.le_trans hsz0 e))) (fun x h => h.elim (fun e => by rw [e]; exact hAq4) (fun e => hAn _ (Nat.le_trans hsz0 e))) (fun H locs hJ z9 q9 hS => ?_)
  obtain ⟨q4r, ga, gb, hN4, hq4r⟩ := hJ
  have lt_q4_q4r : q4 < q4r := Nat.lt_of_lt_of_le ltn ga
  have gq4r : s.heap.size ≤ q4r := Nat.le_trans hsz0 ga
  have hO := va_at.kept hO (q9 _ (x_lt hO) (fun h => h.elim (fun e => absurd e (show ¬ a = q4 from by omega)) (fun e => absurd e (Nat.not_le.mpr (x_lt hO)))))
  have hN1 := va_at.kept hN1 (q9 _ (x_lt hN1) (fun h => h.elim (fun e => absurd e (show ¬ q1 = q4 from by omega)) (fun e => absurd e (Nat.not_le.mpr (x_lt hN1)))))
  have hN2 := va_at.kept hN2 (q9 _ (x_lt hN2) (fun h => h.elim (fun e => absurd e (show ¬ q2 = q4 from by omega)) (fun e => absurd e (Nat.not_le.mpr (x_lt hN2)))))
  have hN3 := va_at.kept hN3 (q9 _ (x_lt hN3) (fun h => h.elim (fun e => absurd e (show ¬ q3 = q4 from by omega)) (fun e => absurd e (Nat.not_le.mpr (x_lt hN3)))))
  refine x_putF hx hb hts h_X6 tyX6 tyX6_ok nmX6 hown hK hO hS hAa rfl 3 (by decide) (hts (.fieldLink RX6 25 "ConfigBeacon" "inquiry" "LConfigBeacon$Inquiry;") (by decide +kernel)) (fun _ h => h) rfl hin rfl (tyX6_ok 3 (by decide)) rfl rfl (Nat.le_of_ble_eq_true rfl) dX6_init_45 (fun H locs hO z9 q9 hS => ?_)
  have hO : xO D a 7 [.ref q1, .ref q2, .ref q3, .ref q4, .null] H := hO
  have hN1 := va_at.kept hN1 (q9 _ (show q1 ≠ a from by omega))
  have hN2 := va_at.kept hN2 (q9 _ (show q2 ≠ a from by omega))
  have hN3 := va_at.kept hN3 (q9 _ (show q3 ≠ a from by omega))
  have hN4 := va_at.kept hN4 (q9 _ (show q4 ≠ a from by omega))
  have hq4r := x_kept hq4r (q9 _ (show q4r ≠ a from by omega))
  refine lv_aload_n hx hb dX6_init_48 rfl (lv_at hl 0 rfl) ?_
  refine xn_o (ci := 2) hx hb hts h_X1 tyX1 tyX1_ok hown (hts (.classLink RX6 29 RX1) (by decide +kernel)) (hts (.instantiable RX1 1) (by decide +kernel)) (hts (.initialized RX1) (by decide +kernel)) hK hS rfl [.null] (fun j hj => by rcases (show j = 0 from by omega) with rfl <;> rfl) (Nat.le_of_ble_eq_true rfl) (Nat.le_of_ble_eq_true rfl) dX6_init_49 (fun q6 H hq gq6 hN6 zN oN hS => ?_)
  have hAq6 : A q6 := hAn _ gq6
  have lt_a_q6 : a < q6 := by rw [hq]; exact (x_lt hO)
  have hO := va_at.kept hO (oN _ (x_lt hO))
  have lt_q1_q6 : q1 < q6 := by rw [hq]; exact (x_lt hN1)
  have hN1 := va_at.kept hN1 (oN _ (x_lt hN1))
  have lt_q2_q6 : q2 < q6 := by rw [hq]; exact (x_lt hN2)
  have hN2 := va_at.kept hN2 (oN _ (x_lt hN2))
  have lt_q3_q6 : q3 < q6 := by rw [hq]; exact (x_lt hN3)
  have hN3 := va_at.kept hN3 (oN _ (x_lt hN3))
  have lt_q4_q6 : q4 < q6 := by rw [hq]; exact (x_lt hN4)
  have hN4 := va_at.kept hN4 (oN _ (x_lt hN4))
  have lt_q4r_q6 : q4r < q6 := by rw [hq]; exact (q_lt hq4r)
  have hq4r := x_kept hq4r (oN _ (q_lt hq4r))
  refine lv_dup hx hb dX6_init_52 rfl ?_
  have hsz0 := hS.1
  have ltn := x_lt hN6
  refine xw_calln (va_runIN (As := []) (rest := [.ref q6, .ref a]) ⟨hx, hb, hml, hown, hts⟩ (c_X1_init l D cA q6 H) ⟨va_cnB 0 hts gX6_init_X1_init_n31 rfl rfl rfl (hK.2.1 ("ConfigBeacon", 31, yX1_init) (by decide)) (hts (.initialized RX1) (by decide +kernel)) (by decide +kernel) ⟨Nat.le_of_ble_eq_true rfl, Nat.le_of_ble_eq_true rfl⟩, rfl, hts (.instanceMethod yX1_init) (by decide +kernel)⟩ (xPS hK ⟨rfl, hN6⟩) rfl rfl hl.1 rfl (lv_room (Nat.le_of_ble_eq_true rfl)) dX6_init_53 ⟨Nat.le_of_ble_eq_true rfl, Nat.le_of_ble_eq_true rfl⟩) hS (fun x _ h => h.elim (fun e => by rw [e]; exact hAq6) (fun e => hAn _ (Nat.le_trans hsz0 e))) (fun x h => h.elim (fun e => by rw [e]; exact hAq6) (fun e => hAn _ (Nat.le_trans hsz0 e))) (fun H locs hJ z9 q9 hS => ?_)
  obtain ⟨q6r, ga, gb, hN6, hq6r⟩ := hJ
  have lt_q6_q6r : q6 < q6r := Nat.lt_of_lt_of_le ltn ga
  have gq6r : s.heap.size ≤ q6r := Nat.le_trans hsz0 ga
  have hO := va_at.kept hO (q9 _ (x_lt hO) (fun h => h.elim (fun e => absurd e (show ¬ a = q6 from by omega)) (fun e => absurd e (Nat.not_le.mpr (x_lt hO)))))
  have hN1 := va_at.kept hN1 (q9 _ (x_lt hN1) (fun h => h.elim (fun e => absurd e (show ¬ q1 = q6 from by omega)) (fun e => absurd e (Nat.not_le.mpr (x_lt hN1)))))
  have hN2 := va_at.kept hN2 (q9 _ (x_lt hN2) (fun h => h.elim (fun e => absurd e (show ¬ q2 = q6 from by omega)) (fun e => absurd e (Nat.not_le.mpr (x_lt hN2)))))
  have hN3 := va_at.kept hN3 (q9 _ (x_lt hN3) (fun h => h.elim (fun e => absurd e (show ¬ q3 = q6 from by omega)) (fun e => absurd e (Nat.not_le.mpr (x_lt hN3)))))
  have hN4 := va_at.kept hN4 (q9 _ (x_lt hN4) (fun h => h.elim (fun e => absurd e (show ¬ q4 = q6 from by omega)) (fun e => absurd e (Nat.not_le.mpr (x_lt hN4)))))
  have hq4r := x_kept hq4r (q9 _ (q_lt hq4r) (fun h => h.elim (fun e => absurd e (show ¬ q4r = q6 from by omega)) (fun e => absurd e (Nat.not_le.mpr (q_lt hq4r)))))
  refine x_put hx hb hts h_X6 tyX6 tyX6_ok nmX6 hown hK hO hS hAa rfl 4 (by decide) (hts (.fieldLink RX6 32 "ConfigBeacon" "current" "LConfigBeacon$Entries;") (by decide +kernel)) (fun _ h => h) rfl (tyX6_ok 4 (by decide)) rfl rfl (Nat.le_of_ble_eq_true rfl) dX6_init_56 (fun H locs hO z9 q9 hS => ?_)
  have hO : xO D a 7 [.ref q1, .ref q2, .ref q3, .ref q4, .ref q6] H := hO
  have hN1 := va_at.kept hN1 (q9 _ (show q1 ≠ a from by omega))
  have hN2 := va_at.kept hN2 (q9 _ (show q2 ≠ a from by omega))
  have hN3 := va_at.kept hN3 (q9 _ (show q3 ≠ a from by omega))
  have hN4 := va_at.kept hN4 (q9 _ (show q4 ≠ a from by omega))
  have hq4r := x_kept hq4r (q9 _ (show q4r ≠ a from by omega))
  have hN6 := va_at.kept hN6 (q9 _ (show q6 ≠ a from by omega))
  have hq6r := x_kept hq6r (q9 _ (show q6r ≠ a from by omega))
  refine lv_aload_n hx hb dX6_init_59 rfl (lv_at hl 0 rfl) ?_
  refine x_get (v := .ref q3) hx hb hts h_X6 hown hK hO rfl 2 (by decide) (hts (.fieldLink RX6 19 "ConfigBeacon" "versions" "Ljava/util/ArrayList;") (by decide +kernel)) (fun _ h => h) rfl dX6_init_60 ?_
  refine lv_aload_n hx hb dX6_init_63 rfl (lv_at hl 0 rfl) ?_
  refine x_get (v := .ref q6) hx hb hts h_X6 hown hK hO rfl 4 (by decide) (hts (.fieldLink RX6 32 "ConfigBeacon" "current" "LConfigBeacon$Entries;") (by decide +kernel)) (fun _ h => h) rfl dX6_init_64 ?_
  have hsz := hS.1
  have hzl := hX.lt
  have hBA : ∀ x, (x = q3 ∨ (0 < 0 ∧ x = z) ∨ H.size ≤ x) → A x := fun x h => h.elim (fun e => by rw [e]; exact hAq3) (fun h => h.elim (fun h => absurd h.1 (Nat.lt_irrefl _)) (fun e => hAn _ (Nat.le_trans hsz e)))
  refine xw_calls (va_runV (As := [.ref q6]) (rest := []) ⟨hx, hb, hml, hown, hts⟩ (c_Jx4a65c_add_9ea2d l D cA q3 z 0 0 z 0 (fun _ => none) (by omega) (by omega) (by omega) (by omega) (fun _ => rfl) 2 (RX1, TX1, 1) rfl (by decide) H q6 _ (by omega) (fun h => absurd h (Nat.lt_irrefl _))) (cwV 1 hts gX6_init_Jx4a65c_add_9ea2d rfl rfl rfl (by decide +kernel) ⟨Nat.le_of_ble_eq_true rfl, Nat.le_of_ble_eq_true rfl⟩) (xPXV hK zK.blind (fun U hU hW => hX.at hS hBA hU hW) hN3 rfl ⟨rfl, hN3, fun h => absurd h (Nat.lt_irrefl _), hN6, fun j hj => absurd hj (Nat.not_lt_zero _)⟩) rfl rfl hl.1 rfl (lv_room (Nat.le_of_ble_eq_true rfl)) dX6_init_67 ⟨Nat.le_of_ble_eq_true rfl, Nat.le_of_ble_eq_true rfl⟩) hS (fun x _ h => hBA x h) (fun x h => hBA x h) (fun H9 locs hP z9 q9 hS => ?_)
  obtain ⟨dq, cap2, f2, hd9, hO9, hQ9, r1, r2, r3, r4⟩ := hP
  have hdq : H.size ≤ dq := hd9.elim (fun h => absurd h.1 (Nat.lt_irrefl _)) id
  have lt_a_dq : a < dq := Nat.lt_of_lt_of_le (x_lt hO) hdq
  have hO := va_at.kept hO (q9 _ (x_lt hO) (fun h => h.elim (fun e => absurd e (show ¬ a = q3 from by omega)) (fun h => h.elim (fun h => absurd h.1 (Nat.lt_irrefl _)) (fun e => absurd e (Nat.not_le.mpr (x_lt hO))))))
  have lt_q1_dq : q1 < dq := Nat.lt_of_lt_of_le (x_lt hN1) hdq
  have hN1 := va_at.kept hN1 (q9 _ (x_lt hN1) (fun h => h.elim (fun e => absurd e (show ¬ q1 = q3 from by omega)) (fun h => h.elim (fun h => absurd h.1 (Nat.lt_irrefl _)) (fun e => absurd e (Nat.not_le.mpr (x_lt hN1))))))
  have lt_q2_dq : q2 < dq := Nat.lt_of_lt_of_le (x_lt hN2) hdq
  have hN2 := va_at.kept hN2 (q9 _ (x_lt hN2) (fun h => h.elim (fun e => absurd e (show ¬ q2 = q3 from by omega)) (fun h => h.elim (fun h => absurd h.1 (Nat.lt_irrefl _)) (fun e => absurd e (Nat.not_le.mpr (x_lt hN2))))))
  have lt_q3_dq : q3 < dq := Nat.lt_of_lt_of_le (x_lt hN3) hdq
  have lt_q4_dq : q4 < dq := Nat.lt_of_lt_of_le (x_lt hN4) hdq
  have hN4 := va_at.kept hN4 (q9 _ (x_lt hN4) (fun h => h.elim (fun e => absurd e (show ¬ q4 = q3 from by omega)) (fun h => h.elim (fun h => absurd h.1 (Nat.lt_irrefl _)) (fun e => absurd e (Nat.not_le.mpr (x_lt hN4))))))
  have lt_q4r_dq : q4r < dq := Nat.lt_of_lt_of_le (q_lt hq4r) hdq
  have hq4r := x_kept hq4r (q9 _ (q_lt hq4r) (fun h => h.elim (fun e => absurd e (show ¬ q4r = q3 from by omega)) (fun h => h.elim (fun h => absurd h.1 (Nat.lt_irrefl _)) (fun e => absurd e (Nat.not_le.mpr (q_lt hq4r))))))
  have lt_q6_dq : q6 < dq := Nat.lt_of_lt_of_le (x_lt hN6) hdq
  have hN6 := va_at.kept hN6 (q9 _ (x_lt hN6) (fun h => h.elim (fun e => absurd e (show ¬ q6 = q3 from by omega)) (fun h => h.elim (fun h => absurd h.1 (Nat.lt_irrefl _)) (fun e => absurd e (Nat.not_le.mpr (x_lt hN6))))))
  have lt_q6r_dq : q6r < dq := Nat.lt_of_lt_of_le (q_lt hq6r) hdq
  have hq6r := x_kept hq6r (q9 _ (q_lt hq6r) (fun h => h.elim (fun e => absurd e (show ¬ q6r = q3 from by omega)) (fun h => h.elim (fun h => absurd h.1 (Nat.lt_irrefl _)) (fun e => absurd e (Nat.not_le.mpr (q_lt hq6r))))))
  refine lv_pop hx hb dX6_init_70 rfl ?_
  exact xw_vret hx hb hr hlocks hS ⟨rfl, st_CS hf lt_a_q1 lt_q1_q2 lt_q2_q3 lt_q3_q4 lt_q4_q4r lt_q4r_q6 lt_q6_q6r lt_q6r_dq hAa (fun x hx => hAn _ (by omega)) hO hN1 hN2 hO9 hQ9 r1 r2 r4 hN4 hq4r hN6 hq6r⟩ (Nat.le_of_ble_eq_true rfl) (Nat.le_of_ble_eq_true rfl) dX6_init_71
