set_option maxHeartbeats 4000000 in
set_option maxRecDepth 100000 in
theorem c_X3_begin (l : Launch) (D : va_G) (cA : Nat → ClassId) (a iw : Nat) (ic : Int32) (en9 : Option Nat) (wr lo uw kn oc fa : Int32) (c9 : Int32) (ie : Nat) (w : Option Nat) : Met l yX3_begin wsX3_begin (rmK 0 0 0) (xP D cA [.ref a, .int c9, .ref ie, .int (wrI w)] (fun H => xO D a 4 [.ref iw, .int ic, va_rf en9, .int wr, .int lo, .int uw, .int kn, .int oc, .int fa] H)) (xW (xV none (fun H => xO D a 4 [.ref iw, .int c9, .ref ie, .int (wrI w), .int 0, .int 0, .int 0, .int 0, .int (-1)] H)) (fun q => q = a)) 0 0 (fun q => q = a) := by
  refine Met.ofW (cc := cX3_begin) (maxL := 4) (ret := none) (by decide) rfl ?_
  intro p e s m args below meth c s₁ B hml hv
  obtain ⟨rfl, hK, hI⟩ := hv
  have hx := B.exec
  have hb := B.bytes
  have hr := B.returns
  have hts := atoms_spec (ws := wsX3_begin) B.pre
  have hown : s.vm.findClass RX3 = some m.cls := findClass_of_methodNamed B.named
  have hlocks := B.notSynchronized
  have hl := lv_entry ([.ref a, .int c9, .ref ie, .int (wrI w)]) (n := 4) (Nat.le_of_ble_eq_true rfl)
  rw [lg_entry_eq]
  generalize (lg_sl ([.ref a, .int c9, .ref ie, .int (wrI w)]) ++ List.replicate (4 - (lg_sl ([.ref a, .int c9, .ref ie, .int (wrI w)])).length) Slot.unset).toArray = ls at hl ⊢
  have hl : lv_has ls 4 [(0, .ref a), (1, .int c9), (2, .ref ie), (3, .int (wrI w))] := hl
  have h_X3 : ∀ w ∈ wsX30, w ∈ wsX3_begin := fun _ h => List.mem_cons_of_mem _ (List.mem_append_right _ h)
  have hO := hI
  have hS : va_S (fun q => q = a) s.heap s.heap [] := va_S.rf
  refine lv_aload_n hx hb dX3_begin_0 rfl (lv_at hl 0 rfl) ?_
  refine lv_iload_n hx hb dX3_begin_1 rfl (lv_at hl 1 rfl) ?_
  refine x_put hx hb hts h_X3 tyX3 tyX3_ok nmX3 hown hK hO hS rfl rfl 1 (by decide) (hts (.fieldLink RX3 15 "ConfigBeacon$Inquiry" "client" "I") (by decide +kernel)) (fun _ h => h) rfl (tyX3_ok 1 (by decide)) rfl rfl (Nat.le_of_ble_eq_true rfl) dX3_begin_2 (fun H locs hO z9 q9 hS => ?_)
  have hO : xO D a 4 [.ref iw, .int c9, va_rf en9, .int wr, .int lo, .int uw, .int kn, .int oc, .int fa] H := hO
  refine lv_aload_n hx hb dX3_begin_5 rfl (lv_at hl 0 rfl) ?_
  refine lv_aload_n hx hb dX3_begin_6 rfl (lv_at hl 2 rfl) ?_
  refine x_put hx hb hts h_X3 tyX3 tyX3_ok nmX3 hown hK hO hS rfl rfl 2 (by decide) (hts (.fieldLink RX3 19 "ConfigBeacon$Inquiry" "entries" "LConfigBeacon$Entries;") (by decide +kernel)) (fun _ h => h) rfl (tyX3_ok 2 (by decide)) rfl rfl (Nat.le_of_ble_eq_true rfl) dX3_begin_7 (fun H locs hO z9 q9 hS => ?_)
  have hO : xO D a 4 [.ref iw, .int c9, .ref ie, .int wr, .int lo, .int uw, .int kn, .int oc, .int fa] H := hO
  refine lv_aload_n hx hb dX3_begin_10 rfl (lv_at hl 0 rfl) ?_
  refine lv_iload_n hx hb dX3_begin_11 rfl (lv_at hl 3 rfl) ?_
  refine x_put hx hb hts h_X3 tyX3 tyX3_ok nmX3 hown hK hO hS rfl rfl 3 (by decide) (hts (.fieldLink RX3 23 "ConfigBeacon$Inquiry" "withRollouts" "Z") (by decide +kernel)) (fun _ h => h) rfl (tyX3_ok 3 (by decide)) (wrI_nar w) (wrI_fit w) (Nat.le_of_ble_eq_true rfl) dX3_begin_12 (fun H locs hO z9 q9 hS => ?_)
  have hO : xO D a 4 [.ref iw, .int c9, .ref ie, .int (wrI w), .int lo, .int uw, .int kn, .int oc, .int fa] H := hO
  refine lv_aload_n hx hb dX3_begin_15 rfl (lv_at hl 0 rfl) ?_
  refine lv_iconst (v := 0) hx hb dX3_begin_16 (by decide) ?_
  refine x_put hx hb hts h_X3 tyX3 tyX3_ok nmX3 hown hK hO hS rfl rfl 4 (by decide) (hts (.fieldLink RX3 27 "ConfigBeacon$Inquiry" "looked" "I") (by decide +kernel)) (fun _ h => h) rfl (tyX3_ok 4 (by decide)) rfl rfl (Nat.le_of_ble_eq_true rfl) dX3_begin_17 (fun H locs hO z9 q9 hS => ?_)
  have hO : xO D a 4 [.ref iw, .int c9, .ref ie, .int (wrI w), .int 0, .int uw, .int kn, .int oc, .int fa] H := hO
  refine lv_aload_n hx hb dX3_begin_20 rfl (lv_at hl 0 rfl) ?_
  refine lv_iconst (v := 0) hx hb dX3_begin_21 (by decide) ?_
  refine x_put hx hb hts h_X3 tyX3 tyX3_ok nmX3 hown hK hO hS rfl rfl 5 (by decide) (hts (.fieldLink RX3 30 "ConfigBeacon$Inquiry" "underWay" "I") (by decide +kernel)) (fun _ h => h) rfl (tyX3_ok 5 (by decide)) rfl rfl (Nat.le_of_ble_eq_true rfl) dX3_begin_22 (fun H locs hO z9 q9 hS => ?_)
  have hO : xO D a 4 [.ref iw, .int c9, .ref ie, .int (wrI w), .int 0, .int 0, .int kn, .int oc, .int fa] H := hO
  refine lv_aload_n hx hb dX3_begin_25 rfl (lv_at hl 0 rfl) ?_
  refine lv_iconst (v := 0) hx hb dX3_begin_26 (by decide) ?_
  refine x_put hx hb hts h_X3 tyX3 tyX3_ok nmX3 hown hK hO hS rfl rfl 6 (by decide) (hts (.fieldLink RX3 33 "ConfigBeacon$Inquiry" "known" "I") (by decide +kernel)) (fun _ h => h) rfl (tyX3_ok 6 (by decide)) rfl rfl (Nat.le_of_ble_eq_true rfl) dX3_begin_27 (fun H locs hO z9 q9 hS => ?_)
  have hO : xO D a 4 [.ref iw, .int c9, .ref ie, .int (wrI w), .int 0, .int 0, .int 0, .int oc, .int fa] H := hO
  refine lv_aload_n hx hb dX3_begin_30 rfl (lv_at hl 0 rfl) ?_
  refine lv_iconst (v := 0) hx hb dX3_begin_31 (by decide) ?_
  refine x_put hx hb hts h_X3 tyX3 tyX3_ok nmX3 hown hK hO hS rfl rfl 7 (by decide) (hts (.fieldLink RX3 36 "ConfigBeacon$Inquiry" "outcome" "I") (by decide +kernel)) (fun _ h => h) rfl (tyX3_ok 7 (by decide)) rfl rfl (Nat.le_of_ble_eq_true rfl) dX3_begin_32 (fun H locs hO z9 q9 hS => ?_)
  have hO : xO D a 4 [.ref iw, .int c9, .ref ie, .int (wrI w), .int 0, .int 0, .int 0, .int 0, .int fa] H := hO
  refine lv_aload_n hx hb dX3_begin_35 rfl (lv_at hl 0 rfl) ?_
  refine lv_iconst (v := (-1)) hx hb dX3_begin_36 (by decide) ?_
  refine x_put hx hb hts h_X3 tyX3 tyX3_ok nmX3 hown hK hO hS rfl rfl 8 (by decide) (hts (.fieldLink RX3 39 "ConfigBeacon$Inquiry" "failing" "I") (by decide +kernel)) (fun _ h => h) rfl (tyX3_ok 8 (by decide)) rfl rfl (Nat.le_of_ble_eq_true rfl) dX3_begin_37 (fun H locs hO z9 q9 hS => ?_)
  have hO : xO D a 4 [.ref iw, .int c9, .ref ie, .int (wrI w), .int 0, .int 0, .int 0, .int 0, .int (-1)] H := hO
  exact xw_vret hx hb hr hlocks hS ⟨rfl, hO⟩ (Nat.le_refl _) (Nat.le_refl _) dX3_begin_40
set_option maxHeartbeats 4000000 in
set_option maxRecDepth 100000 in
theorem c_X3_fail (l : Launch) (D : va_G) (cA : Nat → ClassId) (a iw : Nat) (ic : Int32) (en9 : Option Nat) (wr lo uw kn oc fa : Int32) (y q8 : Int32) : Met l yX3_fail wsX3_fail (rmK 0 0 0) (xP D cA [.ref a, .int y, .int q8] (fun H => xO D a 4 [.ref iw, .int ic, va_rf en9, .int wr, .int lo, .int uw, .int kn, .int oc, .int fa] H)) (xW (xV (some (.int 0)) (fun H => xO D a 4 [.ref iw, .int ic, va_rf en9, .int wr, .int lo, .int uw, .int kn, .int y, .int q8] H)) (fun q => q = a)) 0 0 (fun q => q = a) := by
  refine Met.ofW (cc := cX3_fail) (maxL := 3) (ret := (some .boolean)) (by decide) rfl ?_
  intro p e s m args below meth c s₁ B hml hv
  obtain ⟨rfl, hK, hI⟩ := hv
  have hx := B.exec
  have hb := B.bytes
  have hr := B.returns
  have hts := atoms_spec (ws := wsX3_fail) B.pre
  have hown : s.vm.findClass RX3 = some m.cls := findClass_of_methodNamed B.named
  have hlocks := B.notSynchronized
  have hl := lv_entry ([.ref a, .int y, .int q8]) (n := 3) (Nat.le_of_ble_eq_true rfl)
  rw [lg_entry_eq]
  generalize (lg_sl ([.ref a, .int y, .int q8]) ++ List.replicate (3 - (lg_sl ([.ref a, .int y, .int q8])).length) Slot.unset).toArray = ls at hl ⊢
  have hl : lv_has ls 3 [(0, .ref a), (1, .int y), (2, .int q8)] := hl
  have h_X3 : ∀ w ∈ wsX30, w ∈ wsX3_fail := fun _ h => List.mem_cons_of_mem _ (List.mem_append_right _ h)
  have hO := hI
  have hS : va_S (fun q => q = a) s.heap s.heap [] := va_S.rf
  refine lv_aload_n hx hb dX3_fail_0 rfl (lv_at hl 0 rfl) ?_
  refine lv_iload_n hx hb dX3_fail_1 rfl (lv_at hl 1 rfl) ?_
  refine x_put hx hb hts h_X3 tyX3 tyX3_ok nmX3 hown hK hO hS rfl rfl 7 (by decide) (hts (.fieldLink RX3 36 "ConfigBeacon$Inquiry" "outcome" "I") (by decide +kernel)) (fun _ h => h) rfl (tyX3_ok 7 (by decide)) rfl rfl (Nat.le_of_ble_eq_true rfl) dX3_fail_2 (fun H locs hO z9 q9 hS => ?_)
  have hO : xO D a 4 [.ref iw, .int ic, va_rf en9, .int wr, .int lo, .int uw, .int kn, .int y, .int fa] H := hO
  refine lv_aload_n hx hb dX3_fail_5 rfl (lv_at hl 0 rfl) ?_
  refine lv_iload_n hx hb dX3_fail_6 rfl (lv_at hl 2 rfl) ?_
  refine x_put hx hb hts h_X3 tyX3 tyX3_ok nmX3 hown hK hO hS rfl rfl 8 (by decide) (hts (.fieldLink RX3 39 "ConfigBeacon$Inquiry" "failing" "I") (by decide +kernel)) (fun _ h => h) rfl (tyX3_ok 8 (by decide)) rfl rfl (Nat.le_of_ble_eq_true rfl) dX3_fail_7 (fun H locs hO z9 q9 hS => ?_)
  have hO : xO D a 4 [.ref iw, .int ic, va_rf en9, .int wr, .int lo, .int uw, .int kn, .int y, .int q8] H := hO
  refine lv_iconst (v := 0) hx hb dX3_fail_10 (by decide) ?_
  exact xw_zret (b := false) hx hb hr hlocks rfl hS ⟨rfl, hO⟩ (Nat.le_refl _) (Nat.le_refl _) dX3_fail_11
set_option maxHeartbeats 4000000 in
set_option maxRecDepth 100000 in
theorem c_X3_finish (l : Launch) (D : va_G) (cA : Nat → ClassId) (a iw : Nat) (ic : Int32) (en9 : Option Nat) (wr lo uw kn oc fa : Int32) (b : Nat) (hb9 : b < 16) (x : Int64) (g : Nat → Int64) (hne : a ≠ iw) : Met l yX3_finish wsX3_finish (rmK 1 0 0) (xP D cA [.ref a, .int (nI b), .long x] (fun H => xO D a 4 [.ref iw, .int ic, va_rf en9, .int wr, .int lo, .int uw, .int kn, .int oc, .int fa] H ∧ xL (cA 1) iw 16 g H)) (xW (xV none (fun H => xO D a 4 [.ref iw, .int ic, va_rf en9, .int wr, .int lo, .int (uw &&& (bitI b ^^^ (-1))), .int (kn ||| bitI b), .int oc, .int fa] H ∧ xL (cA 1) iw 16 (vp_updL g b x) H)) (fun q => q = a ∨ q = iw)) 0 0 (fun q => q = a ∨ q = iw) := by
  refine Met.ofW (cc := cX3_finish) (maxL := 4) (ret := none) (by decide) rfl ?_
  intro p e s m args below meth c s₁ B hml hv
  obtain ⟨rfl, hK, hI⟩ := hv
  have hx := B.exec
  have hb := B.bytes
  have hr := B.returns
  have hts := atoms_spec (ws := wsX3_finish) B.pre
  have hown : s.vm.findClass RX3 = some m.cls := findClass_of_methodNamed B.named
  have hlocks := B.notSynchronized
  have hl := lv_entry ([.ref a, .int (nI b), .long x]) (n := 4) (Nat.le_of_ble_eq_true rfl)
  rw [lg_entry_eq]
  generalize (lg_sl ([.ref a, .int (nI b), .long x]) ++ List.replicate (4 - (lg_sl ([.ref a, .int (nI b), .long x])).length) Slot.unset).toArray = ls at hl ⊢
  have hl : lv_has ls 4 [(0, .ref a), (1, .int (nI b)), (2, .long x)] := hl
  have h_X3 : ∀ w ∈ wsX30, w ∈ wsX3_finish := fun _ h => List.mem_cons_of_mem _ (List.mem_append_right _ h)
  obtain ⟨hO, hW9⟩ := hI
  have hS : va_S (fun q => q = a ∨ q = iw) s.heap s.heap [] := va_S.rf
  refine lv_aload_n hx hb dX3_finish_0 rfl (lv_at hl 0 rfl) ?_
  refine x_get (v := .ref iw) hx hb hts h_X3 hown hK hO rfl 0 (by decide) (hts (.fieldLink RX3 9 "ConfigBeacon$Inquiry" "values" "[J") (by decide +kernel)) (fun _ h => h) rfl dX3_finish_1 ?_
  refine lv_iload_n hx hb dX3_finish_4 rfl (lv_at hl 1 rfl) ?_
  refine lv_lload_n hx hb dX3_finish_5 rfl (lv_at hl 2 rfl) ?_
  refine x_last hx hb hK hW9 hS (Or.inr rfl) b rfl (by omega) (by decide) dX3_finish_6 (fun H locs hW9 z9 q9 hS => ?_)
  have hO := va_at.kept hO (q9 _ hne)
  refine lv_aload_n hx hb dX3_finish_7 rfl (lv_at hl 0 rfl) ?_
  refine lv_dup hx hb dX3_finish_8 rfl ?_
  refine x_get (v := .int uw) hx hb hts h_X3 hown hK hO rfl 5 (by decide) (hts (.fieldLink RX3 30 "ConfigBeacon$Inquiry" "underWay" "I") (by decide +kernel)) (fun _ h => h) rfl dX3_finish_9 ?_
  refine lv_iload_n hx hb dX3_finish_12 rfl (lv_at hl 1 rfl) ?_
  refine xr_call (va_runSN (As := [.int (nI b)]) (rest := [.int uw, .ref a]) ⟨hx, hb, hml, hown, hts⟩ (c_X6_bit l D cA b) ⟨va_cnB 1 hts gX3_finish_X6_bit_n42 rfl rfl rfl (hK.2.1 ("ConfigBeacon$Inquiry", 42, yX6_bit) (by decide)) (hts (.initialized RX6) (by decide +kernel)) (by decide +kernel) ⟨Nat.le_of_ble_eq_true rfl, Nat.le_of_ble_eq_true rfl⟩, hts (.static yX6_bit) (by decide +kernel), trivial⟩ (xPS hK trivial) rfl rfl hl.1 rfl (lv_room (Nat.le_of_ble_eq_true rfl)) dX3_finish_13 ⟨Nat.le_of_ble_eq_true rfl, Nat.le_of_ble_eq_true rfl⟩) ?_
  refine lv_iconst (v := (-1)) hx hb dX3_finish_16 (by decide) ?_
  refine lv_ixor hx hb dX3_finish_17 ?_
  refine lv_iand hx hb dX3_finish_18 ?_
  refine x_put hx hb hts h_X3 tyX3 tyX3_ok nmX3 hown hK hO hS (Or.inl rfl) rfl 5 (by decide) (hts (.fieldLink RX3 30 "ConfigBeacon$Inquiry" "underWay" "I") (by decide +kernel)) (fun _ h => h) rfl (tyX3_ok 5 (by decide)) rfl rfl (Nat.le_of_ble_eq_true rfl) dX3_finish_19 (fun H locs hO z9 q9 hS => ?_)
  have hO : xO D a 4 [.ref iw, .int ic, va_rf en9, .int wr, .int lo, .int (uw &&& ((bitI b) ^^^ (-1))), .int kn, .int oc, .int fa] H := hO
  have hW9 := x_kept hW9 (q9 _ (Ne.symm hne))
  refine lv_aload_n hx hb dX3_finish_22 rfl (lv_at hl 0 rfl) ?_
  refine lv_dup hx hb dX3_finish_23 rfl ?_
  refine x_get (v := .int kn) hx hb hts h_X3 hown hK hO rfl 6 (by decide) (hts (.fieldLink RX3 33 "ConfigBeacon$Inquiry" "known" "I") (by decide +kernel)) (fun _ h => h) rfl dX3_finish_24 ?_
  refine lv_iload_n hx hb dX3_finish_27 rfl (lv_at hl 1 rfl) ?_
  refine xr_call (va_runSN (As := [.int (nI b)]) (rest := [.int kn, .ref a]) ⟨hx, hb, hml, hown, hts⟩ (c_X6_bit l D cA b) ⟨va_cnB 1 hts gX3_finish_X6_bit_n42 rfl rfl rfl (hK.2.1 ("ConfigBeacon$Inquiry", 42, yX6_bit) (by decide)) (hts (.initialized RX6) (by decide +kernel)) (by decide +kernel) ⟨Nat.le_of_ble_eq_true rfl, Nat.le_of_ble_eq_true rfl⟩, hts (.static yX6_bit) (by decide +kernel), trivial⟩ (xPS hK trivial) rfl rfl hl.1 rfl (lv_room (Nat.le_of_ble_eq_true rfl)) dX3_finish_28 ⟨Nat.le_of_ble_eq_true rfl, Nat.le_of_ble_eq_true rfl⟩) ?_
  refine lv_ior hx hb dX3_finish_31 ?_
  refine x_put hx hb hts h_X3 tyX3 tyX3_ok nmX3 hown hK hO hS (Or.inl rfl) rfl 6 (by decide) (hts (.fieldLink RX3 33 "ConfigBeacon$Inquiry" "known" "I") (by decide +kernel)) (fun _ h => h) rfl (tyX3_ok 6 (by decide)) rfl rfl (Nat.le_of_ble_eq_true rfl) dX3_finish_32 (fun H locs hO z9 q9 hS => ?_)
  have hO : xO D a 4 [.ref iw, .int ic, va_rf en9, .int wr, .int lo, .int (uw &&& ((bitI b) ^^^ (-1))), .int (kn ||| (bitI b)), .int oc, .int fa] H := hO
  have hW9 := x_kept hW9 (q9 _ (Ne.symm hne))
  exact xw_vret hx hb hr hlocks hS ⟨rfl, hO, hW9⟩ (Nat.le_refl _) (Nat.le_refl _) dX3_finish_35
