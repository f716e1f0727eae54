set_option maxHeartbeats 4000000 in
set_option maxRecDepth 100000 in
theorem c_X1_replacing_s (l : Launch) (D : va_G) (cA : Nat → ClassId) (a ea : Nat) (g : Nat → Option Nat) (x9 : Nat → Int32) (y9 : Int32) (i9 j9 : Nat) (hi9 : i9 < 8) (hj9 : j9 < 16) (e9 : Nat) (H9 : Heap) : Met l yX1_replacing wsX1_replacing (rmK 1 2 129) (xP D cA [.ref a, .int (nI i9), .int (nI j9), .ref e9] (fun H => H = H9 ∧ xO D a 2 [.ref ea] H ∧ xQ (cA 2) ea 128 g H ∧ (∀ k, k < 128 → eR D (g k) (x9 k) H) ∧ eR D (some e9) y9 H)) (xW (fun r H => ∃ q ea2 g2, r = some (va_rf (some q)) ∧ H9.size ≤ q ∧ H9.size ≤ ea2 ∧ xO D q 2 [.ref ea2] H ∧ xQ (cA 2) ea2 128 g2 H ∧ ∀ k, k < 128 → g2 k = if k = 16 * i9 + j9 then (some e9) else g k) (fun z => H9.size ≤ z)) 2 129 (fun z => H9.size ≤ z) := by
  refine Met.ofW (cc := cX1_replacing) (maxL := 6) (ret := (some (.object "ConfigBeacon$Entries"))) (by decide) rfl ?_
  intro p e s m args below meth c s₁ B hml hv
  obtain ⟨rfl, hK, hI⟩ := hv
  have hx := B.exec
  have hb := B.bytes
  have hr := B.returns
  have hts := atoms_spec (ws := wsX1_replacing) B.pre
  have hown : s.vm.findClass RX1 = some m.cls := findClass_of_methodNamed B.named
  have hlocks := B.notSynchronized
  have hl := lv_entry ([.ref a, .int (nI i9), .int (nI j9), .ref e9]) (n := 6) (Nat.le_of_ble_eq_true rfl)
  rw [lg_entry_eq]
  generalize (lg_sl ([.ref a, .int (nI i9), .int (nI j9), .ref e9]) ++ List.replicate (6 - (lg_sl ([.ref a, .int (nI i9), .int (nI j9), .ref e9])).length) Slot.unset).toArray = ls at hl ⊢
  have hl : lv_has ls 6 [(0, .ref a), (1, .int (nI i9)), (2, .int (nI j9)), (3, .ref e9)] := hl
  have h_X1 : ∀ w ∈ wsX10, w ∈ wsX1_replacing := fun _ h => List.mem_cons_of_mem _ (List.mem_append_right _ h)
  obtain ⟨hH9, hO0, hQ0, hEr0, ho0⟩ := hI
  subst hH9
  have hS : va_S (fun z => s.heap.size ≤ z) s.heap s.heap [] := va_S.rf
  refine xn_o (ci := 2) hx hb hts h_X1 tyX1 tyX1_ok hown (hts (.classLink RX1 12 RX1) (by decide +kernel)) (hts (.instantiable RX1 1) (by decide +kernel)) (hts (.initialized RX1) (by decide +kernel)) hK hS rfl [.null] (fun j hj => by have e : j = 0 := (by omega); subst e; rfl) (Nat.le_of_ble_eq_true rfl) (Nat.le_of_ble_eq_true rfl) dX1_replacing_0 (fun q H hq gq hN zN oN hS => ?_)
  refine lv_dup hx hb dX1_replacing_3 rfl ?_
  have hs1 := hS.1
  refine xw_calln (va_runI (As := []) (rest := [.ref q]) ⟨hx, hb, hml, hown, hts⟩ (c_X1_init l D cA q H) (cwI 0 hts gX1_replacing_X1_init rfl rfl rfl (hts (.initialized RX1) (by decide +kernel)) (hts (.methodLink RX1 17 yX1_init) (by decide +kernel)) (hts (.instanceMethod yX1_init) (by decide +kernel)) rfl (by decide +kernel) ⟨Nat.le_of_ble_eq_true rfl, Nat.le_of_ble_eq_true rfl⟩) (xPS hK ⟨rfl, hN⟩) rfl rfl hl.1 rfl (lv_room (Nat.le_of_ble_eq_true rfl)) dX1_replacing_4 ⟨Nat.le_of_ble_eq_true rfl, Nat.le_of_ble_eq_true rfl⟩) hS (fun z _ h => by show s.heap.size ≤ z; rcases h with h | h <;> first | (rw [h]; exact gq) | exact Nat.le_trans hs1 h) (fun z h => by show s.heap.size ≤ z; rcases h with h | h <;> first | (rw [h]; exact gq) | exact Nat.le_trans hs1 h) (fun H locs hP z9 q9 hS => ?_)
  obtain ⟨q1, g1, l1, hN, hR⟩ := hP
  have gq1 : s.heap.size ≤ q1 := by omega
  have hqq : ¬ q = q1 := by omega
  refine lv_astore (lv' := [(4, .ref q), (0, .ref a), (1, .int (nI i9)), (2, .int (nI j9)), (3, .ref e9)]) hx hb dX1_replacing_7 hl (by decide) rfl (fun ls hl => ?_)
  refine lv_iconst (v := 0) hx hb dX1_replacing_9 (by decide) ?_
  refine lv_istore (lv' := [(5, .int 0), (4, .ref q), (0, .ref a), (1, .int (nI i9)), (2, .int (nI j9)), (3, .ref e9)]) hx hb dX1_replacing_10 hl (by decide) rfl (fun ls hl => ?_)
  refine w_loop (fun (k : Nat) H locs ls => k ≤ 128 ∧ xO D q 2 [.ref q1] H ∧ xQ (cA 2) q1 128 (fun z => if z < k then g z else none) H ∧ va_S (fun z => s.heap.size ≤ z) s.heap H locs ∧ lv_has ls 6 [(0, .ref a), (1, .int (nI i9)), (2, .int (nI j9)), (3, .ref e9), (4, .ref q), (5, .int (nI k))]) (fun k => 128 - k) ?_ 0 ⟨Nat.zero_le _, hN, xQ_cong hR (fun z _ => by rw [if_neg (by omega)]), hS, lv_sub hl [2, 3, 4, 5, 1, 0] rfl⟩
  intro k H locs ls h9 ih
  obtain ⟨hk, hN, hR, hS, hl⟩ := h9
  refine lv_iload hx hb dX1_replacing_12 (lv_at hl 5 rfl) ?_
  refine lv_sipush (v := 128) hx hb dX1_replacing_14 (by decide) ?_
  refine lv_icmp_ge (tgt := 41) hx hb dX1_replacing_17 (by decide) (fun c_1 => ?_) (fun c_1 => ?_)
  · have n_1 : 128 ≤ k := (nI_leI (a := 128) (b := k) (by omega) (by omega)).mp c_1
    refine lv_aload hx hb dX1_replacing_41 (lv_at hl 4 rfl) ?_
    refine x_get (v := .ref q1) hx hb hts h_X1 hown hK hN rfl 0 (by decide) (hts (.fieldLink RX1 11 "ConfigBeacon$Entries" "all" "[LConfigBeacon$Entry;") (by decide +kernel)) (fun _ h => h) rfl dX1_replacing_43 ?_
    refine lv_iload_n hx hb dX1_replacing_46 rfl (lv_at hl 1 rfl) ?_
    refine lv_bipush (v := 16) hx hb dX1_replacing_47 (by decide) ?_
    refine xe_imul hx hb (pk_mul i9 16) dX1_replacing_49 ?_
    refine lv_iload_n hx hb dX1_replacing_50 rfl (lv_at hl 2 rfl) ?_
    refine xe_iadd hx hb (nI_add (i9 * 16) j9) dX1_replacing_51 ?_
    refine lv_aload_n hx hb dX1_replacing_52 rfl (lv_at hl 3 rfl) ?_
    refine x_aastE (o := (some e9)) hx hb hK hR hS gq1 (ho0.keptS (fun x hx => hS.2.1 x hx (Nat.not_le.mpr hx))) ((i9 * 16) + j9) rfl (by omega) (by decide) dX1_replacing_53 (fun H locs hR z9 q9 hS => ?_)
    have hN := va_at.kept hN (q9 _ hqq)
    refine lv_aload hx hb dX1_replacing_54 (lv_at hl 4 rfl) ?_
    exact xw_aret (v := some q) hx hb hr rfl hlocks hS ⟨q, q1, _, rfl, gq, gq1, hN, hR, fun k8 hk8 => by have e9 : k8 < k := (by omega); simp only [va_up, show i9 * 16 + j9 = 16 * i9 + j9 by omega, if_pos e9]⟩ (Nat.le_refl _) (Nat.le_refl _) dX1_replacing_56
  · have n_1 : k < 128 := Nat.not_le.mp (fun q => c_1 ((nI_leI (a := 128) (b := k) (by omega) (by omega)).mpr q))
    refine lv_aload hx hb dX1_replacing_20 (lv_at hl 4 rfl) ?_
    refine x_get (v := .ref q1) hx hb hts h_X1 hown hK hN rfl 0 (by decide) (hts (.fieldLink RX1 11 "ConfigBeacon$Entries" "all" "[LConfigBeacon$Entry;") (by decide +kernel)) (fun _ h => h) rfl dX1_replacing_22 ?_
    refine lv_iload hx hb dX1_replacing_25 (lv_at hl 5 rfl) ?_
    refine lv_aload_n hx hb dX1_replacing_27 rfl (lv_at hl 0 rfl) ?_
    refine x_get (v := .ref ea) hx hb hts h_X1 hown hK (va_at.kept hO0 (hS.2.1 _ (x_lt hO0) (Nat.not_le.mpr (x_lt hO0)))) rfl 0 (by decide) (hts (.fieldLink RX1 11 "ConfigBeacon$Entries" "all" "[LConfigBeacon$Entry;") (by decide +kernel)) (fun _ h => h) rfl dX1_replacing_28 ?_
    refine lv_iload hx hb dX1_replacing_31 (lv_at hl 5 rfl) ?_
    refine x_aald hx hb hK 2 rfl (x_kept hQ0 (hS.2.1 _ (q_lt hQ0) (Nat.not_le.mpr (q_lt hQ0)))) k rfl (by omega) (by decide) (v := g k) rfl dX1_replacing_33 ?_
    refine x_aastE (o := (g k)) hx hb hK hR hS gq1 ((hEr0 k (by omega)).keptS (fun x hx => hS.2.1 x hx (Nat.not_le.mpr hx))) k rfl (by omega) (by decide) dX1_replacing_34 (fun H locs hR z9 q9 hS => ?_)
    have hN := va_at.kept hN (q9 _ hqq)
    refine lv_iinc (v := (nI (k + 1))) (lv' := [(5, .int (nI (k + 1))), (0, .ref a), (1, .int (nI i9)), (2, .int (nI j9)), (3, .ref e9), (4, .ref q)]) hx hb dX1_replacing_35 hl (k := 5) rfl (ni_inc k) (by decide) rfl (fun ls hl => ?_)
    refine lv_goto (tgt := 12) hx hb dX1_replacing_38 (by decide) ?_
    exact ih (k + 1) _ _ _ ⟨by omega, hN, xQ_cong hR (fun z hz => by simp only [va_up]; by_cases e1 : z = k <;> by_cases e2 : z < k <;> by_cases e3 : z < k + 1 <;> first | omega | simp [e1, e2, e3]), hS, lv_sub hl [1, 2, 3, 4, 5, 0] rfl⟩ (by omega)
set_option maxHeartbeats 4000000 in
set_option maxRecDepth 100000 in
theorem c_X1_replacing_n (l : Launch) (D : va_G) (cA : Nat → ClassId) (a ea : Nat) (g : Nat → Option Nat) (x9 : Nat → Int32) (y9 : Int32) (i9 j9 : Nat) (hi9 : i9 < 8) (hj9 : j9 < 16) (H9 : Heap) : Met l yX1_replacing wsX1_replacing (rmK 1 2 129) (xP D cA [.ref a, .int (nI i9), .int (nI j9), .null] (fun H => H = H9 ∧ xO D a 2 [.ref ea] H ∧ xQ (cA 2) ea 128 g H ∧ (∀ k, k < 128 → eR D (g k) (x9 k) H) ∧ eR D none y9 H)) (xW (fun r H => ∃ q ea2 g2, r = some (va_rf (some q)) ∧ H9.size ≤ q ∧ H9.size ≤ ea2 ∧ xO D q 2 [.ref ea2] H ∧ xQ (cA 2) ea2 128 g2 H ∧ ∀ k, k < 128 → g2 k = if k = 16 * i9 + j9 then none else g k) (fun z => H9.size ≤ z)) 2 129 (fun z => H9.size ≤ z) := by
  refine Met.ofW (cc := cX1_replacing) (maxL := 6) (ret := (some (.object "ConfigBeacon$Entries"))) (by decide) rfl ?_
  intro p e s m args below meth c s₁ B hml hv
  obtain ⟨rfl, hK, hI⟩ := hv
  have hx := B.exec
  have hb := B.bytes
  have hr := B.returns
  have hts := atoms_spec (ws := wsX1_replacing) B.pre
  have hown : s.vm.findClass RX1 = some m.cls := findClass_of_methodNamed B.named
  have hlocks := B.notSynchronized
  have hl := lv_entry ([.ref a, .int (nI i9), .int (nI j9), .null]) (n := 6) (Nat.le_of_ble_eq_true rfl)
  rw [lg_entry_eq]
  generalize (lg_sl ([.ref a, .int (nI i9), .int (nI j9), .null]) ++ List.replicate (6 - (lg_sl ([.ref a, .int (nI i9), .int (nI j9), .null])).length) Slot.unset).toArray = ls at hl ⊢
  have hl : lv_has ls 6 [(0, .ref a), (1, .int (nI i9)), (2, .int (nI j9)), (3, .null)] := hl
  have h_X1 : ∀ w ∈ wsX10, w ∈ wsX1_replacing := fun _ h => List.mem_cons_of_mem _ (List.mem_append_right _ h)
  obtain ⟨hH9, hO0, hQ0, hEr0, ho0⟩ := hI
  subst hH9
  have hS : va_S (fun z => s.heap.size ≤ z) s.heap s.heap [] := va_S.rf
  refine xn_o (ci := 2) hx hb hts h_X1 tyX1 tyX1_ok hown (hts (.classLink RX1 12 RX1) (by decide +kernel)) (hts (.instantiable RX1 1) (by decide +kernel)) (hts (.initialized RX1) (by decide +kernel)) hK hS rfl [.null] (fun j hj => by have e : j = 0 := (by omega); subst e; rfl) (Nat.le_of_ble_eq_true rfl) (Nat.le_of_ble_eq_true rfl) dX1_replacing_0 (fun q H hq gq hN zN oN hS => ?_)
  refine lv_dup hx hb dX1_replacing_3 rfl ?_
  have hs1 := hS.1
  refine xw_calln (va_runI (As := []) (rest := [.ref q]) ⟨hx, hb, hml, hown, hts⟩ (c_X1_init l D cA q H) (cwI 0 hts gX1_replacing_X1_init rfl rfl rfl (hts (.initialized RX1) (by decide +kernel)) (hts (.methodLink RX1 17 yX1_init) (by decide +kernel)) (hts (.instanceMethod yX1_init) (by decide +kernel)) rfl (by decide +kernel) ⟨Nat.le_of_ble_eq_true rfl, Nat.le_of_ble_eq_true rfl⟩) (xPS hK ⟨rfl, hN⟩) rfl rfl hl.1 rfl (lv_room (Nat.le_of_ble_eq_true rfl)) dX1_replacing_4 ⟨Nat.le_of_ble_eq_true rfl, Nat.le_of_ble_eq_true rfl⟩) hS (fun z _ h => by show s.heap.size ≤ z; rcases h with h | h <;> first | (rw [h]; exact gq) | exact Nat.le_trans hs1 h) (fun z h => by show s.heap.size ≤ z; rcases h with h | h <;> first | (rw [h]; exact gq) | exact Nat.le_trans hs1 h) (fun H locs hP z9 q9 hS => ?_)
  obtain ⟨q1, g1, l1, hN, hR⟩ := hP
  have gq1 : s.heap.size ≤ q1 := by omega
  have hqq : ¬ q = q1 := by omega
  refine lv_astore (lv' := [(4, .ref q), (0, .ref a), (1, .int (nI i9)), (2, .int (nI j9)), (3, .null)]) hx hb dX1_replacing_7 hl (by decide) rfl (fun ls hl => ?_)
  refine lv_iconst (v := 0) hx hb dX1_replacing_9 (by decide) ?_
  refine lv_istore (lv' := [(5, .int 0), (4, .ref q), (0, .ref a), (1, .int (nI i9)), (2, .int (nI j9)), (3, .null)]) hx hb dX1_replacing_10 hl (by decide) rfl (fun ls hl => ?_)
  refine w_loop (fun (k : Nat) H locs ls => k ≤ 128 ∧ xO D q 2 [.ref q1] H ∧ xQ (cA 2) q1 128 (fun z => if z < k then g z else none) H ∧ va_S (fun z => s.heap.size ≤ z) s.heap H locs ∧ lv_has ls 6 [(0, .ref a), (1, .int (nI i9)), (2, .int (nI j9)), (3, .null), (4, .ref q), (5, .int (nI k))]) (fun k => 128 - k) ?_ 0 ⟨Nat.zero_le _, hN, xQ_cong hR (fun z _ => by rw [if_neg (by omega)]), hS, lv_sub hl [2, 3, 4, 5, 1, 0] rfl⟩
  intro k H locs ls h9 ih
  obtain ⟨hk, hN, hR, hS, hl⟩ := h9
  refine lv_iload hx hb dX1_replacing_12 (lv_at hl 5 rfl) ?_
  refine lv_sipush (v := 128) hx hb dX1_replacing_14 (by decide) ?_
  refine lv_icmp_ge (tgt := 41) hx hb dX1_replacing_17 (by decide) (fun c_1 => ?_) (fun c_1 => ?_)
  · have n_1 : 128 ≤ k := (nI_leI (a := 128) (b := k) (by omega) (by omega)).mp c_1
    refine lv_aload hx hb dX1_replacing_41 (lv_at hl 4 rfl) ?_
    refine x_get (v := .ref q1) hx hb hts h_X1 hown hK hN rfl 0 (by decide) (hts (.fieldLink RX1 11 "ConfigBeacon$Entries" "all" "[LConfigBeacon$Entry;") (by decide +kernel)) (fun _ h => h) rfl dX1_replacing_43 ?_
    refine lv_iload_n hx hb dX1_replacing_46 rfl (lv_at hl 1 rfl) ?_
    refine lv_bipush (v := 16) hx hb dX1_replacing_47 (by decide) ?_
    refine xe_imul hx hb (pk_mul i9 16) dX1_replacing_49 ?_
    refine lv_iload_n hx hb dX1_replacing_50 rfl (lv_at hl 2 rfl) ?_
    refine xe_iadd hx hb (nI_add (i9 * 16) j9) dX1_replacing_51 ?_
    refine lv_aload_nN hx hb dX1_replacing_52 rfl (lv_at hl 3 rfl) ?_
    refine x_aastE (o := none) hx hb hK hR hS gq1 (ho0.keptS (fun x hx => hS.2.1 x hx (Nat.not_le.mpr hx))) ((i9 * 16) + j9) rfl (by omega) (by decide) dX1_replacing_53 (fun H locs hR z9 q9 hS => ?_)
    have hN := va_at.kept hN (q9 _ hqq)
    refine lv_aload hx hb dX1_replacing_54 (lv_at hl 4 rfl) ?_
    exact xw_aret (v := some q) hx hb hr rfl hlocks hS ⟨q, q1, _, rfl, gq, gq1, hN, hR, fun k8 hk8 => by have e9 : k8 < k := (by omega); simp only [va_up, show i9 * 16 + j9 = 16 * i9 + j9 by omega, if_pos e9]⟩ (Nat.le_refl _) (Nat.le_refl _) dX1_replacing_56
  · have n_1 : k < 128 := Nat.not_le.mp (fun q => c_1 ((nI_leI (a := 128) (b := k) (by omega) (by omega)).mpr q))
    refine lv_aload hx hb dX1_replacing_20 (lv_at hl 4 rfl) ?_
    refine x_get (v := .ref q1) hx hb hts h_X1 hown hK hN rfl 0 (by decide) (hts (.fieldLink RX1 11 "ConfigBeacon$Entries" "all" "[LConfigBeacon$Entry;") (by decide +kernel)) (fun _ h => h) rfl dX1_replacing_22 ?_
    refine lv_iload hx hb dX1_replacing_25 (lv_at hl 5 rfl) ?_
    refine lv_aload_n hx hb dX1_replacing_27 rfl (lv_at hl 0 rfl) ?_
    refine x_get (v := .ref ea) hx hb hts h_X1 hown hK (va_at.kept hO0 (hS.2.1 _ (x_lt hO0) (Nat.not_le.mpr (x_lt hO0)))) rfl 0 (by decide) (hts (.fieldLink RX1 11 "ConfigBeacon$Entries" "all" "[LConfigBeacon$Entry;") (by decide +kernel)) (fun _ h => h) rfl dX1_replacing_28 ?_
    refine lv_iload hx hb dX1_replacing_31 (lv_at hl 5 rfl) ?_
    refine x_aald hx hb hK 2 rfl (x_kept hQ0 (hS.2.1 _ (q_lt hQ0) (Nat.not_le.mpr (q_lt hQ0)))) k rfl (by omega) (by decide) (v := g k) rfl dX1_replacing_33 ?_
    refine x_aastE (o := (g k)) hx hb hK hR hS gq1 ((hEr0 k (by omega)).keptS (fun x hx => hS.2.1 x hx (Nat.not_le.mpr hx))) k rfl (by omega) (by decide) dX1_replacing_34 (fun H locs hR z9 q9 hS => ?_)
    have hN := va_at.kept hN (q9 _ hqq)
    refine lv_iinc (v := (nI (k + 1))) (lv' := [(5, .int (nI (k + 1))), (0, .ref a), (1, .int (nI i9)), (2, .int (nI j9)), (3, .null), (4, .ref q)]) hx hb dX1_replacing_35 hl (k := 5) rfl (ni_inc k) (by decide) rfl (fun ls hl => ?_)
    refine lv_goto (tgt := 12) hx hb dX1_replacing_38 (by decide) ?_
    exact ih (k + 1) _ _ _ ⟨by omega, hN, xQ_cong hR (fun z hz => by simp only [va_up]; by_cases e1 : z = k <;> by_cases e2 : z < k <;> by_cases e3 : z < k + 1 <;> first | omega | simp [e1, e2, e3]), hS, lv_sub hl [1, 2, 3, 4, 5, 0] rfl⟩ (by omega)
