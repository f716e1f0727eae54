set_option maxHeartbeats 4000000 in
set_option maxRecDepth 100000 in
theorem c_J7_copyOf_6403c (l : Launch) (D : va_G) (cA : Nat → ClassId) (src n9 cap : Nat) (f : Nat → Option Nat) (hn9 : n9 ≤ 1000) (hcap : cap ≤ 1000) (ci : Nat) (r9 : vw_C) (hc : vwCl[ci]? = some r9) (hca : (r9.1, "java/lang/Object") ∈ xCast) (H9 : Heap) (mi : Nat) : Met l yJ7_copyOf_6403c wsJ7_copyOf_6403c (rmK 0 1 1000) (xPX D cA (fun U => va_Mi "[Ljava/lang/Object;" mi U) [.ref src, .int (nI n9), .ref mi] (fun H => H = H9 ∧ xQ (cA 4) src cap f H ∧ ∀ j, j < cap → ∀ y, f j = some y → ∃ fs, xO D y ci fs H)) (xW (fun r H => ∃ q, r = some (va_rf (some q)) ∧ H9.size ≤ q ∧ xQ (cA 4) q n9 (fun j => if j < min cap n9 then f j else none) H) (fun x => x = src ∨ H9.size ≤ x)) 1 1000 (fun x => x = src ∨ H9.size ≤ x) := by
  refine Met.ofW (cc := cJ7_copyOf_6403c) (maxL := 4) (ret := (some (.array (.object "java/lang/Object")))) (by decide) rfl ?_
  intro p e s m args below meth c s₁ B hml hv
  obtain ⟨rfl, ⟨hK, hX⟩, hI⟩ := hv
  have hx := B.exec
  have hb := B.bytes
  have hr := B.returns
  have hts := atoms_spec (ws := wsJ7_copyOf_6403c) B.pre
  have hown : s.vm.findClass RJ7 = some m.cls := findClass_of_methodNamed B.named
  have hlocks := B.notSynchronized
  have hl := lv_entry ([.ref src, .int (nI n9), .ref mi]) (n := 4) (Nat.le_of_ble_eq_true rfl)
  rw [lg_entry_eq]
  generalize (lg_sl ([.ref src, .int (nI n9), .ref mi]) ++ List.replicate (4 - (lg_sl ([.ref src, .int (nI n9), .ref mi])).length) Slot.unset).toArray = ls at hl ⊢
  have hl : lv_has ls 4 [(0, .ref src), (1, .int (nI n9)), (2, .ref mi)] := hl
  obtain ⟨hH9, hQ, hEl⟩ := hI
  have emn : (if nI n9 < nI cap then nI n9 else nI cap) = nI (min cap n9) := by
    by_cases q : n9 < cap
    · rw [if_pos (nI_lt q (by omega)), Nat.min_eq_right (by omega)]
    · rw [if_neg (Int32.not_lt.mpr (nI_le (by omega) (by omega))), Nat.min_eq_left (by omega)]
  subst hH9
  have hS : va_S (fun x => x = src ∨ s.heap.size ≤ x) s.heap s.heap [] := va_S.rf
  refine lv_aload_n hx hb dJ7_copyOf_6403c_0 rfl (lv_at hl 2 rfl) ?_
  refine va_ldcM hx hb hown (hts (.classLink RJ7 110 "[Ljava/lang/Object;") (by decide +kernel)) hX dJ7_copyOf_6403c_1 ?_
  refine lv_acmp_ne (rx := some mi) (ry := some mi) (tgt := 13) hx hb dJ7_copyOf_6403c_3 (by decide) (fun q => absurd rfl q) (fun _ => ?_)
  refine lv_iload_n hx hb dJ7_copyOf_6403c_6 rfl (lv_at hl 1 rfl) ?_
  have hls := q_lt hQ
  refine xn_q hx hb hown (hts (.classLink RJ7 2 "java/lang/Object") (by decide +kernel)) hK.2.2.2.2.2.1 hK 4 rfl hS n9 (Int32.not_lt.mpr (nI_le (a := 0) (by omega) (by omega))) (nI_clamp (by omega)) (by omega) (by show 0 + 1 ≤ 1; omega) (by show 0 + n9 ≤ 1000; omega) dJ7_copyOf_6403c_7 (fun q H hq gq hN z9 o9 hS => ?_)
  have hQ := x_kept hQ (o9 _ (q_lt hQ))
  refine lv_goto (tgt := 24) hx hb dJ7_copyOf_6403c_10 (by decide) ?_
  refine lv_astore_n (lv' := [(3, .ref q), (0, .ref src), (1, .int (nI n9)), (2, .ref mi)]) hx hb dJ7_copyOf_6403c_24 rfl hl (by decide) rfl (fun ls hl => ?_)
  refine lv_aload_n hx hb dJ7_copyOf_6403c_25 rfl (lv_at hl 1 rfl) ?_
  refine lv_iconst (v := 0) hx hb dJ7_copyOf_6403c_26 (by decide) ?_
  refine lv_aload_n hx hb dJ7_copyOf_6403c_27 rfl (lv_at hl 0 rfl) ?_
  refine lv_iconst (v := 0) hx hb dJ7_copyOf_6403c_28 (by decide) ?_
  refine lv_aload_n hx hb dJ7_copyOf_6403c_29 rfl (lv_at hl 1 rfl) ?_
  refine x_alen hx hb hK 4 rfl hQ dJ7_copyOf_6403c_30 ?_
  refine lv_iload_n hx hb dJ7_copyOf_6403c_31 rfl (lv_at hl 2 rfl) ?_
  refine va_mmin hx hb (by rw [hml]; exact hl.1.symm) hown (hts (.methodLink RJ7 304 Lib.Math.min.name) (by decide +kernel)) (hts (.static Lib.Math.min.name) (by decide +kernel)) (hts (.initialized "java/lang/Math") (by decide +kernel)) (hts _ (List.mem_cons_of_mem _ (List.mem_of_getElem? (i := 5) rfl))) (Nat.le_of_ble_eq_true rfl) (Nat.le_of_ble_eq_true rfl) (by show 0 + 1 ≤ 1; omega) (by show 0 + n9 ≤ 1000; omega) dJ7_copyOf_6403c_32 ?_
  rw [emn]
  refine x_copy hx hb (by rw [hml]; exact hl.1.symm) hown (hts (.methodLink RJ7 150 arraycopyName) (by decide +kernel)) (hts (.native arraycopyName) (by decide +kernel)) (hts (.static arraycopyName) (by decide +kernel)) (hts (.initialized "java/lang/System") (by decide +kernel)) hK hS hQ hN (by omega) (Or.inl rfl) (Or.inr gq) hc (hK.2.2.2.2.2.2.2.2 _ hca) (by omega) (by omega) (by omega) (fun i hi y hy => (hEl i (by omega) y hy).elim (fun fs h => ⟨fs, va_at.kept h (o9 _ (x_lt h))⟩)) (Nat.le_of_ble_eq_true rfl) (by decide +kernel) dJ7_copyOf_6403c_35 (fun H locs hN hQ hS => ?_)
  refine lv_aload_n hx hb dJ7_copyOf_6403c_38 rfl (lv_at hl 0 rfl) ?_
  exact xw_aret (v := some q) hx hb hr rfl hlocks hS ⟨q, rfl, gq, hN⟩ (Nat.le_refl _) (by omega) dJ7_copyOf_6403c_39
set_option maxHeartbeats 4000000 in
set_option maxRecDepth 100000 in
theorem c_J7_copyOf_1904c (l : Launch) (D : va_G) (cA : Nat → ClassId) (src n9 cap : Nat) (f : Nat → Option Nat) (hn9 : n9 ≤ 1000) (hcap : cap ≤ 1000) (ci : Nat) (r9 : vw_C) (hc : vwCl[ci]? = some r9) (hca : (r9.1, "java/lang/Object") ∈ xCast) (H9 : Heap) : Met l yJ7_copyOf_1904c wsJ7_copyOf_1904c (rmK 1 1 1000) (xP D cA [.ref src, .int (nI n9)] (fun H => H = H9 ∧ xQ (cA 4) src cap f H ∧ ∀ j, j < cap → ∀ y, f j = some y → ∃ fs, xO D y ci fs H)) (xW (fun r H => ∃ q, r = some (va_rf (some q)) ∧ H9.size ≤ q ∧ xQ (cA 4) q n9 (fun j => if j < min cap n9 then f j else none) H) (fun x => x = src ∨ H9.size ≤ x)) 1 1000 (fun x => x = src ∨ H9.size ≤ x) := by
  refine Met.ofW (cc := cJ7_copyOf_1904c) (maxL := 2) (ret := (some (.array (.object "java/lang/Object")))) (by decide) rfl ?_
  intro p e s m args below meth c s₁ B hml hv
  obtain ⟨rfl, hK, hI⟩ := hv
  have hx := B.exec
  have hb := B.bytes
  have hr := B.returns
  have hts := atoms_spec (ws := wsJ7_copyOf_1904c) B.pre
  have hown : s.vm.findClass RJ7 = some m.cls := findClass_of_methodNamed B.named
  have hlocks := B.notSynchronized
  have hl := lv_entry ([.ref src, .int (nI n9)]) (n := 2) (Nat.le_of_ble_eq_true rfl)
  rw [lg_entry_eq]
  generalize (lg_sl ([.ref src, .int (nI n9)]) ++ List.replicate (2 - (lg_sl ([.ref src, .int (nI n9)])).length) Slot.unset).toArray = ls at hl ⊢
  have hl : lv_has ls 2 [(0, .ref src), (1, .int (nI n9))] := hl
  obtain ⟨hH9, hQ, hEl⟩ := hI
  subst hH9
  have hS : va_S (fun x => x = src ∨ s.heap.size ≤ x) s.heap s.heap [] := va_S.rf
  refine lv_aload_n hx hb dJ7_copyOf_1904c_0 rfl (lv_at hl 0 rfl) ?_
  refine lv_iload_n hx hb dJ7_copyOf_1904c_1 rfl (lv_at hl 1 rfl) ?_
  refine lv_aload_n hx hb dJ7_copyOf_1904c_2 rfl (lv_at hl 0 rfl) ?_
  obtain ⟨mi, hMi⟩ := hK.2.2.2.2.2.2.1
  refine va_getC hx hb (by rw [hml]; exact hl.1.symm) hown (hts (.methodLink RJ7 86 ⟨"java/lang/Object", "getClass", "()Ljava/lang/Class;"⟩) (by decide +kernel)) hK.2.2.2.2.2.2.2.1.use (hts (.selects "[Ljava/lang/Object;" ⟨"java/lang/Object", "getClass", "()Ljava/lang/Class;"⟩ ⟨"java/lang/Object", "getClass", "()Ljava/lang/Class;"⟩) (by decide +kernel)) (hts (.instanceMethod ⟨"java/lang/Object", "getClass", "()Ljava/lang/Class;"⟩) (by decide +kernel)) (hts (.native ⟨"java/lang/Object", "getClass", "()Ljava/lang/Class;"⟩) (by decide +kernel)) hMi ⟨_, hQ, rfl, va_nmO (C := "java/lang/Object") (hK.1.2 4 _ rfl).2 (by decide +kernel)⟩ (Nat.le_of_ble_eq_true rfl) (Nat.le_of_ble_eq_true rfl) dJ7_copyOf_1904c_3 ?_
  refine xw_callr (va_runS (As := [.ref src, .int (nI n9), .ref mi]) (rest := []) ⟨hx, hb, hml, hown, hts⟩ (c_J7_copyOf_6403c l D cA src n9 cap f hn9 hcap ci r9 hc hca s.heap mi) (va_cwS 3 hts gJ7_copyOf_1904c_J7_copyOf_6403c rfl rfl rfl (by decide +kernel) ⟨Nat.le_of_ble_eq_true rfl, Nat.le_of_ble_eq_true rfl⟩) (xPXS hK va_Mi.blind (fun U _ hW => va_Mi.moved hW.alike hMi) ⟨rfl, hQ, hEl⟩) rfl rfl hl.1 rfl (lv_room (Nat.le_of_ble_eq_true rfl)) dJ7_copyOf_1904c_6 ⟨Nat.le_of_ble_eq_true rfl, Nat.le_of_ble_eq_true rfl⟩) hS (fun _ _ h => h) (fun _ h => h) (fun q H locs hJ z9 q9 hS => ?_)
  obtain ⟨gq, hN⟩ := hJ
  exact xw_aret (v := some q) hx hb hr rfl hlocks hS ⟨q, rfl, gq, hN⟩ (Nat.le_refl _) (Nat.le_refl _) dJ7_copyOf_1904c_9
set_option maxHeartbeats 4000000 in
set_option maxRecDepth 100000 in
theorem c_Jx4a65c_grow_92f84_f (l : Launch) (D : va_G) (cA : Nat → ClassId) (a d n : Nat) (mc : Int32) (f : Nat → Option Nat) (h0 : 0 < n) (hn : n + max 1 (n / 2) ≤ 1000) (hne : ¬ a = d) (ci : Nat) (r9 : vw_C) (hc : vwCl[ci]? = some r9) (hca : (r9.1, "java/lang/Object") ∈ xCast) (H9 : Heap) : Met l yJx4a65c_grow_92f84 wsJx4a65c_grow_92f84 (rmK 2 1 1000) (xP D cA [.ref a, .int (nI (n + 1))] (fun H => H = H9 ∧ xO D a 0 [.int mc, .ref d, .int (nI n)] H ∧ xQ (cA 4) d n f H ∧ ∀ j, j < n → ∀ y, f j = some y → ∃ fs, xO D y ci fs H)) (xW (fun r H => ∃ q, r = some (va_rf (some q)) ∧ H9.size ≤ q ∧ xO D a 0 [.int mc, .ref q, .int (nI n)] H ∧ xQ (cA 4) q (n + max 1 (n / 2)) (fun j => if j < n then f j else none) H) (fun x => x = a ∨ x = d ∨ H9.size ≤ x)) 1 1000 (fun x => x = a ∨ x = d ∨ H9.size ≤ x) := by
  refine Met.ofW (cc := cJx4a65c_grow_92f84) (maxL := 4) (ret := (some (.array (.object "java/lang/Object")))) (by decide) rfl ?_
  intro p e s m args below meth c s₁ B hml hv
  obtain ⟨rfl, hK, hI⟩ := hv
  have hx := B.exec
  have hb := B.bytes
  have hr := B.returns
  have hts := atoms_spec (ws := wsJx4a65c_grow_92f84) B.pre
  have hown : s.vm.findClass RJx4a65c = some m.cls := findClass_of_methodNamed B.named
  have hlocks := B.notSynchronized
  have hl := lv_entry ([.ref a, .int (nI (n + 1))]) (n := 4) (Nat.le_of_ble_eq_true rfl)
  rw [lg_entry_eq]
  generalize (lg_sl ([.ref a, .int (nI (n + 1))]) ++ List.replicate (4 - (lg_sl ([.ref a, .int (nI (n + 1))])).length) Slot.unset).toArray = ls at hl ⊢
  have hl : lv_has ls 4 [(0, .ref a), (1, .int (nI (n + 1)))] := hl
  have h_Jx4a65c : ∀ w ∈ wsJx4a65c0, w ∈ wsJx4a65c_grow_92f84 := fun _ h => List.mem_cons_of_mem _ (List.mem_append_right _ h)
  obtain ⟨hH9, hO, hQ, hEl⟩ := hI
  subst hH9
  have hS : va_S (fun x => x = a ∨ x = d ∨ s.heap.size ≤ x) s.heap s.heap [] := va_S.rf
  refine lv_aload_n hx hb dJx4a65c_grow_92f84_0 rfl (lv_at hl 0 rfl) ?_
  refine x_get (v := .ref d) hx hb hts h_Jx4a65c hown hK hO rfl 1 (by decide) (hts (.fieldLink RJx4a65c 9 "java/util/ArrayList" "elementData" "[Ljava/lang/Object;") (by decide +kernel)) (fun _ h => h) rfl dJx4a65c_grow_92f84_1 ?_
  refine x_alen hx hb hK 4 rfl hQ dJx4a65c_grow_92f84_4 ?_
  refine lv_istore_n (lv' := [(2, .int (nI n)), (0, .ref a), (1, .int (nI (n + 1)))]) hx hb dJx4a65c_grow_92f84_5 rfl hl (by decide) rfl (fun ls hl => ?_)
  refine lv_iload_n hx hb dJx4a65c_grow_92f84_6 rfl (lv_at hl 0 rfl) ?_
  refine lv_if_gt (tgt := 20) hx hb dJx4a65c_grow_92f84_7 (by decide) (fun _ => ?_) (fun q => absurd (nI_lt (a := 0) h0 (by omega)) q)
  refine lv_iload_n hx hb dJx4a65c_grow_92f84_20 rfl (lv_at hl 0 rfl) ?_
  refine lv_iload_n hx hb dJx4a65c_grow_92f84_21 rfl (lv_at hl 2 rfl) ?_
  refine lv_iload_n hx hb dJx4a65c_grow_92f84_22 rfl (lv_at hl 0 rfl) ?_
  refine xe_isub hx hb nI_sub1 dJx4a65c_grow_92f84_23 ?_
  refine lv_iload_n hx hb dJx4a65c_grow_92f84_24 rfl (lv_at hl 0 rfl) ?_
  refine lv_iconst (v := 1) hx hb dJx4a65c_grow_92f84_25 (by decide) ?_
  refine lv_ishr hx hb dJx4a65c_grow_92f84_26 ?_
  refine xe_top (nI_half (by omega)) ?_
  refine xr_call (va_runS (As := [.int (nI n), .int (nI 1), .int (nI (n / 2))]) (rest := []) ⟨hx, hb, hml, hown, hts⟩ (c_J8_newLength_cabcc l D cA n 1 (n / 2) (by omega) (by omega)) (va_cwS 3 hts gJx4a65c_grow_92f84_J8_newLength_cabcc rfl rfl rfl (by decide +kernel) ⟨Nat.le_of_ble_eq_true rfl, Nat.le_of_ble_eq_true rfl⟩) (xPS hK trivial) rfl rfl hl.1 rfl (lv_room (Nat.le_of_ble_eq_true rfl)) dJx4a65c_grow_92f84_27 ⟨Nat.le_of_ble_eq_true rfl, Nat.le_of_ble_eq_true rfl⟩) ?_
  refine lv_istore_n (lv' := [(3, .int (nI (n + max 1 (n / 2)))), (2, .int (nI n)), (0, .ref a), (1, .int (nI (n + 1)))]) hx hb dJx4a65c_grow_92f84_30 rfl hl (by decide) rfl (fun ls hl => ?_)
  refine lv_aload_n hx hb dJx4a65c_grow_92f84_31 rfl (lv_at hl 2 rfl) ?_
  refine lv_aload_n hx hb dJx4a65c_grow_92f84_32 rfl (lv_at hl 2 rfl) ?_
  refine x_get (v := .ref d) hx hb hts h_Jx4a65c hown hK hO rfl 1 (by decide) (hts (.fieldLink RJx4a65c 9 "java/util/ArrayList" "elementData" "[Ljava/lang/Object;") (by decide +kernel)) (fun _ h => h) rfl dJx4a65c_grow_92f84_33 ?_
  refine lv_iload_n hx hb dJx4a65c_grow_92f84_36 rfl (lv_at hl 0 rfl) ?_
  refine xw_callr (va_runS (As := [.ref d, .int (nI (n + max 1 (n / 2)))]) (rest := [.ref a]) ⟨hx, hb, hml, hown, hts⟩ (c_J7_copyOf_1904c l D cA d (n + max 1 (n / 2)) n f (by omega) (by omega) ci r9 hc hca s.heap) (va_cwS 2 hts gJx4a65c_grow_92f84_J7_copyOf_1904c rfl rfl rfl (by decide +kernel) ⟨Nat.le_of_ble_eq_true rfl, Nat.le_of_ble_eq_true rfl⟩) (xPS hK ⟨rfl, hQ, hEl⟩) rfl rfl hl.1 rfl (lv_room (Nat.le_of_ble_eq_true rfl)) dJx4a65c_grow_92f84_37 ⟨Nat.le_of_ble_eq_true rfl, Nat.le_of_ble_eq_true rfl⟩) hS (fun _ _ h => h.elim (fun e => Or.inr (Or.inl e)) (fun e => Or.inr (Or.inr e))) (fun _ h => h.elim (fun e => Or.inr (Or.inl e)) (fun e => Or.inr (Or.inr e))) (fun q H locs hJ z9 q9 hS => ?_)
  obtain ⟨hq1, hN1⟩ := hJ
  have hlt := x_lt hO
  have hO := va_at.kept hO (q9 a (x_lt hO) (fun h => h.elim hne (fun e => absurd e (Nat.not_le.mpr (x_lt hO)))))
  refine lv_dup_x1 hx hb dJx4a65c_grow_92f84_40 rfl rfl ?_
  refine x_put hx hb hts h_Jx4a65c tyJx4a65c tyJx4a65c_ok nmJx4a65c hown hK hO hS (Or.inl rfl) rfl 1 (by decide) (hts (.fieldLink RJx4a65c 9 "java/util/ArrayList" "elementData" "[Ljava/lang/Object;") (by decide +kernel)) (fun _ h => h) rfl (tyJx4a65c_ok 1 (by decide)) rfl rfl (Nat.le_of_ble_eq_true rfl) dJx4a65c_grow_92f84_41 (fun H locs hO z9 q9 hS => ?_)
  have hO : xO D a 0 [.int mc, .ref q, .int (nI n)] H := hO
  have hN1 := x_kept hN1 (q9 _ (by omega))
  exact xw_aret (v := some q) hx hb hr rfl hlocks hS ⟨q, rfl, hq1, hO, xQ_cong hN1 (fun i hi => by simp only [show min n (n + max 1 (n / 2)) = n by omega])⟩ (Nat.le_refl _) (by omega) dJx4a65c_grow_92f84_44
set_option maxHeartbeats 4000000 in
set_option maxRecDepth 100000 in
theorem c_Jx4a65c_grow_92f84_e (l : Launch) (D : va_G) (cA : Nat → ClassId) (a z : Nat) (mc : Int32) (H9 : Heap) : Met l yJx4a65c_grow_92f84 wsJx4a65c_grow_92f84 (rmK 2 1 1000) (xPX D cA (fun U => zK (fun x => x = a ∨ H9.size ≤ x) z U) [.ref a, .int (nI 1)] (fun H => H = H9 ∧ xO D a 0 [.int mc, .ref z, .int (nI 0)] H)) (xW (fun r H => ∃ q, r = some (va_rf (some q)) ∧ H9.size ≤ q ∧ xO D a 0 [.int mc, .ref q, .int (nI 0)] H ∧ xQ (cA 4) q 10 (fun _ => none) H) (fun x => x = a ∨ H9.size ≤ x)) 1 1000 (fun x => x = a ∨ H9.size ≤ x) := by
  refine Met.ofW (cc := cJx4a65c_grow_92f84) (maxL := 4) (ret := (some (.array (.object "java/lang/Object")))) (by decide) rfl ?_
  intro p e s m args below meth c s₁ B hml hv
  obtain ⟨rfl, ⟨hK, hX⟩, hI⟩ := hv
  have hx := B.exec
  have hb := B.bytes
  have hr := B.returns
  have hts := atoms_spec (ws := wsJx4a65c_grow_92f84) B.pre
  have hown : s.vm.findClass RJx4a65c = some m.cls := findClass_of_methodNamed B.named
  have hlocks := B.notSynchronized
  have hl := lv_entry ([.ref a, .int (nI 1)]) (n := 4) (Nat.le_of_ble_eq_true rfl)
  rw [lg_entry_eq]
  generalize (lg_sl ([.ref a, .int (nI 1)]) ++ List.replicate (4 - (lg_sl ([.ref a, .int (nI 1)])).length) Slot.unset).toArray = ls at hl ⊢
  have hl : lv_has ls 4 [(0, .ref a), (1, .int (nI 1))] := hl
  have h_Jx4a65c : ∀ w ∈ wsJx4a65c0, w ∈ wsJx4a65c_grow_92f84 := fun _ h => List.mem_cons_of_mem _ (List.mem_append_right _ h)
  obtain ⟨hH9, hO⟩ := hI
  subst hH9
  have hS : va_S (fun x => x = a ∨ s.heap.size ≤ x) s.heap s.heap [] := va_S.rf
  refine lv_aload_n hx hb dJx4a65c_grow_92f84_0 rfl (lv_at hl 0 rfl) ?_
  refine x_get (v := .ref z) hx hb hts h_Jx4a65c hown hK hO rfl 1 (by decide) (hts (.fieldLink RJx4a65c 9 "java/util/ArrayList" "elementData" "[Ljava/lang/Object;") (by decide +kernel)) (fun _ h => h) rfl dJx4a65c_grow_92f84_1 ?_
  refine x_zlen hx hb hX hS dJx4a65c_grow_92f84_4 ?_
  refine lv_istore_n (lv' := [(2, .int 0), (0, .ref a), (1, .int (nI 1))]) hx hb dJx4a65c_grow_92f84_5 rfl hl (by decide) rfl (fun ls hl => ?_)
  refine lv_iload_n hx hb dJx4a65c_grow_92f84_6 rfl (lv_at hl 0 rfl) ?_
  refine lv_if_gt (tgt := 20) hx hb dJx4a65c_grow_92f84_7 (by decide) (fun c_1 => absurd c_1 (by decide)) (fun _ => ?_)
  refine lv_aload_n hx hb dJx4a65c_grow_92f84_10 rfl (lv_at hl 1 rfl) ?_
  refine x_get (v := .ref z) hx hb hts h_Jx4a65c hown hK hO rfl 1 (by decide) (hts (.fieldLink RJx4a65c 9 "java/util/ArrayList" "elementData" "[Ljava/lang/Object;") (by decide +kernel)) (fun _ h => h) rfl dJx4a65c_grow_92f84_11 ?_
  refine va_gets hx hb hX.1 hS hown (hts (.fieldLink RJx4a65c 39 "java/util/ArrayList" "DEFAULTCAPACITY_EMPTY_ELEMENTDATA" "[Ljava/lang/Object;") (by decide +kernel)) (fun _ h => h) dJx4a65c_grow_92f84_14 ?_
  refine lv_acmp_eq (rx := some z) (ry := some z) (tgt := 45) hx hb dJx4a65c_grow_92f84_17 (by decide) (fun _ => ?_) (fun q => absurd rfl q)
  refine lv_aload_n hx hb dJx4a65c_grow_92f84_45 rfl (lv_at hl 1 rfl) ?_
  refine lv_bipush (v := 10) hx hb dJx4a65c_grow_92f84_46 (by decide) ?_
  refine lv_iload_n hx hb dJx4a65c_grow_92f84_48 rfl (lv_at hl 2 rfl) ?_
  refine va_mmax hx hb (by rw [hml]; exact hl.1.symm) hown (hts (.methodLink RJx4a65c 79 Lib.Math.max.name) (by decide +kernel)) (hts (.static Lib.Math.max.name) (by decide +kernel)) (hts (.initialized "java/lang/Math") (by decide +kernel)) (hts _ (List.mem_cons_of_mem _ (List.mem_append_left _ (List.mem_append_left _ (List.mem_of_getElem? (i := 5) rfl))))) (Nat.le_of_ble_eq_true rfl) (Nat.le_of_ble_eq_true rfl) (Nat.zero_le _) (Nat.zero_le _) dJx4a65c_grow_92f84_49 ?_
  refine xe_top (y := nI 10) (by decide) ?_
  have hlt := x_lt hO
  refine xn_q hx hb hown (hts (.classLink RJx4a65c 7 "java/lang/Object") (by decide +kernel)) hK.2.2.2.2.2.1 hK 4 rfl hS 10 (by decide) (by decide) (by omega) (Nat.le_of_ble_eq_true rfl) (Nat.le_of_ble_eq_true rfl) dJx4a65c_grow_92f84_52 (fun q H hq hq1 hN1 z9 o9 hS => ?_)
  have hO := va_at.kept hO (o9 _ (x_lt hO))
  refine lv_dup_x1 hx hb dJx4a65c_grow_92f84_55 rfl rfl ?_
  refine x_put hx hb hts h_Jx4a65c tyJx4a65c tyJx4a65c_ok nmJx4a65c hown hK hO hS (Or.inl rfl) rfl 1 (by decide) (hts (.fieldLink RJx4a65c 9 "java/util/ArrayList" "elementData" "[Ljava/lang/Object;") (by decide +kernel)) (fun _ h => h) rfl (tyJx4a65c_ok 1 (by decide)) rfl rfl (Nat.le_of_ble_eq_true rfl) dJx4a65c_grow_92f84_56 (fun H locs hO z9 q9 hS => ?_)
  have hO : xO D a 0 [.int mc, .ref q, .int (nI 0)] H := hO
  have hN1 := x_kept hN1 (q9 _ (by omega))
  exact xw_aret (v := some q) hx hb hr rfl hlocks hS ⟨q, rfl, hq1, hO, hN1⟩ (Nat.le_refl _) (by omega) dJx4a65c_grow_92f84_59
set_option maxHeartbeats 4000000 in
set_option maxRecDepth 100000 in
theorem c_Jx4a65c_grow_d5877_f (l : Launch) (D : va_G) (cA : Nat → ClassId) (a d n : Nat) (mc : Int32) (f : Nat → Option Nat) (h0 : 0 < n) (hn : n + max 1 (n / 2) ≤ 1000) (hne : ¬ a = d) (ci : Nat) (r9 : vw_C) (hc : vwCl[ci]? = some r9) (hca : (r9.1, "java/lang/Object") ∈ xCast) (H9 : Heap) : Met l yJx4a65c_grow_d5877 wsJx4a65c_grow_d5877 (rmK 3 1 1000) (xP D cA [.ref a] (fun H => H = H9 ∧ xO D a 0 [.int mc, .ref d, .int (nI n)] H ∧ xQ (cA 4) d n f H ∧ ∀ j, j < n → ∀ y, f j = some y → ∃ fs, xO D y ci fs H)) (xW (fun r H => ∃ q, r = some (va_rf (some q)) ∧ H9.size ≤ q ∧ xO D a 0 [.int mc, .ref q, .int (nI n)] H ∧ xQ (cA 4) q (n + max 1 (n / 2)) (fun j => if j < n then f j else none) H) (fun x => x = a ∨ x = d ∨ H9.size ≤ x)) 1 1000 (fun x => x = a ∨ x = d ∨ H9.size ≤ x) := by
  refine Met.ofW (cc := cJx4a65c_grow_d5877) (maxL := 1) (ret := (some (.array (.object "java/lang/Object")))) (by decide) rfl ?_
  intro p e s m args below meth c s₁ B hml hv
  obtain ⟨rfl, hK, hI⟩ := hv
  have hx := B.exec
  have hb := B.bytes
  have hr := B.returns
  have hts := atoms_spec (ws := wsJx4a65c_grow_d5877) B.pre
  have hown : s.vm.findClass RJx4a65c = some m.cls := findClass_of_methodNamed B.named
  have hlocks := B.notSynchronized
  have hl := lv_entry ([.ref a]) (n := 1) (Nat.le_of_ble_eq_true rfl)
  rw [lg_entry_eq]
  generalize (lg_sl ([.ref a]) ++ List.replicate (1 - (lg_sl ([.ref a])).length) Slot.unset).toArray = ls at hl ⊢
  have hl : lv_has ls 1 [(0, .ref a)] := hl
  have h_Jx4a65c : ∀ w ∈ wsJx4a65c0, w ∈ wsJx4a65c_grow_d5877 := fun _ h => List.mem_cons_of_mem _ (List.mem_append_right _ h)
  obtain ⟨hH9, hO, hQ, hEl⟩ := hI
  subst hH9
  have hS : va_S (fun x => x = a ∨ x = d ∨ s.heap.size ≤ x) s.heap s.heap [] := va_S.rf
  refine lv_aload_n hx hb dJx4a65c_grow_d5877_0 rfl (lv_at hl 0 rfl) ?_
  refine lv_aload_n hx hb dJx4a65c_grow_d5877_1 rfl (lv_at hl 0 rfl) ?_
  refine x_get (v := .int (nI n)) hx hb hts h_Jx4a65c hown hK hO rfl 2 (by decide) (hts (.fieldLink RJx4a65c 48 "java/util/ArrayList" "size" "I") (by decide +kernel)) (fun _ h => h) rfl dJx4a65c_grow_d5877_2 ?_
  refine lv_iconst (v := 1) hx hb dJx4a65c_grow_d5877_5 (by decide) ?_
  refine xe_iadd hx hb (nI_1 n) dJx4a65c_grow_d5877_6 ?_
  refine xw_callr (va_runV (As := [.int (nI (n + 1))]) (rest := []) ⟨hx, hb, hml, hown, hts⟩ (c_Jx4a65c_grow_92f84_f l D cA a d n mc f h0 hn hne ci r9 hc hca s.heap) (cwV 1 hts gJx4a65c_grow_d5877_Jx4a65c_grow_92f84 rfl rfl rfl (by decide +kernel) ⟨Nat.le_of_ble_eq_true rfl, Nat.le_of_ble_eq_true rfl⟩) (xPV hK hO rfl ⟨rfl, hO, hQ, hEl⟩) rfl rfl hl.1 rfl (lv_room (Nat.le_of_ble_eq_true rfl)) dJx4a65c_grow_d5877_7 ⟨Nat.le_of_ble_eq_true rfl, Nat.le_of_ble_eq_true rfl⟩) hS (fun _ _ h => h) (fun _ h => h) (fun q H locs hJ z9 q9 hS => ?_)
  obtain ⟨hq1, hO, hN1⟩ := hJ
  exact xw_aret (v := some q) hx hb hr rfl hlocks hS ⟨q, rfl, hq1, hO, hN1⟩ (Nat.le_refl _) (Nat.le_refl _) dJx4a65c_grow_d5877_10
set_option maxHeartbeats 4000000 in
set_option maxRecDepth 100000 in
theorem c_Jx4a65c_grow_d5877_e (l : Launch) (D : va_G) (cA : Nat → ClassId) (a z : Nat) (mc : Int32) (H9 : Heap) : Met l yJx4a65c_grow_d5877 wsJx4a65c_grow_d5877 (rmK 3 1 1000) (xPX D cA (fun U => zK (fun x => x = a ∨ H9.size ≤ x) z U) [.ref a] (fun H => H = H9 ∧ xO D a 0 [.int mc, .ref z, .int (nI 0)] H)) (xW (fun r H => ∃ q, r = some (va_rf (some q)) ∧ H9.size ≤ q ∧ xO D a 0 [.int mc, .ref q, .int (nI 0)] H ∧ xQ (cA 4) q 10 (fun _ => none) H) (fun x => x = a ∨ H9.size ≤ x)) 1 1000 (fun x => x = a ∨ H9.size ≤ x) := by
  refine Met.ofW (cc := cJx4a65c_grow_d5877) (maxL := 1) (ret := (some (.array (.object "java/lang/Object")))) (by decide) rfl ?_
  intro p e s m args below meth c s₁ B hml hv
  obtain ⟨rfl, ⟨hK, hX⟩, hI⟩ := hv
  have hx := B.exec
  have hb := B.bytes
  have hr := B.returns
  have hts := atoms_spec (ws := wsJx4a65c_grow_d5877) B.pre
  have hown : s.vm.findClass RJx4a65c = some m.cls := findClass_of_methodNamed B.named
  have hlocks := B.notSynchronized
  have hl := lv_entry ([.ref a]) (n := 1) (Nat.le_of_ble_eq_true rfl)
  rw [lg_entry_eq]
  generalize (lg_sl ([.ref a]) ++ List.replicate (1 - (lg_sl ([.ref a])).length) Slot.unset).toArray = ls at hl ⊢
  have hl : lv_has ls 1 [(0, .ref a)] := hl
  have h_Jx4a65c : ∀ w ∈ wsJx4a65c0, w ∈ wsJx4a65c_grow_d5877 := fun _ h => List.mem_cons_of_mem _ (List.mem_append_right _ h)
  obtain ⟨hH9, hO⟩ := hI
  subst hH9
  have hS : va_S (fun x => x = a ∨ s.heap.size ≤ x) s.heap s.heap [] := va_S.rf
  refine lv_aload_n hx hb dJx4a65c_grow_d5877_0 rfl (lv_at hl 0 rfl) ?_
  refine lv_aload_n hx hb dJx4a65c_grow_d5877_1 rfl (lv_at hl 0 rfl) ?_
  refine x_get (v := .int (nI 0)) hx hb hts h_Jx4a65c hown hK hO rfl 2 (by decide) (hts (.fieldLink RJx4a65c 48 "java/util/ArrayList" "size" "I") (by decide +kernel)) (fun _ h => h) rfl dJx4a65c_grow_d5877_2 ?_
  refine lv_iconst (v := 1) hx hb dJx4a65c_grow_d5877_5 (by decide) ?_
  refine xe_iadd hx hb (nI_1 0) dJx4a65c_grow_d5877_6 ?_
  refine xw_callr (va_runV (As := [.int (nI 1)]) (rest := []) ⟨hx, hb, hml, hown, hts⟩ (c_Jx4a65c_grow_92f84_e l D cA a z mc s.heap) (cwV 1 hts gJx4a65c_grow_d5877_Jx4a65c_grow_92f84 rfl rfl rfl (by decide +kernel) ⟨Nat.le_of_ble_eq_true rfl, Nat.le_of_ble_eq_true rfl⟩) (xPXV hK zK.blind (fun U hU hW => hX.at hS (fun _ h => h) hU hW) hO rfl ⟨rfl, hO⟩) rfl rfl hl.1 rfl (lv_room (Nat.le_of_ble_eq_true rfl)) dJx4a65c_grow_d5877_7 ⟨Nat.le_of_ble_eq_true rfl, Nat.le_of_ble_eq_true rfl⟩) hS (fun _ _ h => h) (fun _ h => h) (fun q H locs hJ z9 q9 hS => ?_)
  obtain ⟨hq1, hO, hN1⟩ := hJ
  exact xw_aret (v := some q) hx hb hr rfl hlocks hS ⟨q, rfl, hq1, hO, hN1⟩ (Nat.le_refl _) (Nat.le_refl _) dJx4a65c_grow_d5877_10
set_option maxHeartbeats 4000000 in
set_option maxRecDepth 100000 in
theorem c_Jx4a65c_add_72be8_f (l : Launch) (D : va_G) (cA : Nat → ClassId) (a d n : Nat) (mc : Int32) (f : Nat → Option Nat) (h0 : 0 < n) (hn : n + max 1 (n / 2) ≤ 1000) (hne : ¬ a = d) (ci : Nat) (r9 : vw_C) (hc : vwCl[ci]? = some r9) (hca : (r9.1, "java/lang/Object") ∈ xCast) (H9 : Heap) (w : Nat) (vs : List Value) (hwa : ¬ w = a) (hwd : ¬ w = d) : Met l yJx4a65c_add_72be8 wsJx4a65c_add_72be8 (rmK 4 1 1000) (xP D cA [.ref a, .ref w, .ref d, .int (nI n)] (fun H => H = H9 ∧ xO D a 0 [.int mc, .ref d, .int (nI n)] H ∧ xQ (cA 4) d n f H ∧ xO D w ci vs H ∧ ∀ j, j < n → ∀ y, f j = some y → ∃ fs, xO D y ci fs H)) (xW (xV none (fun H => ∃ q cap2 f2, (q = d ∨ H9.size ≤ q) ∧ xO D a 0 [.int mc, .ref q, .int (nI (n + 1))] H ∧ xQ (cA 4) q cap2 f2 H ∧ n + 1 ≤ cap2 ∧ cap2 ≤ 1000 ∧ (∀ j, j < n → f2 j = f j) ∧ f2 n = some w)) (fun x => x = a ∨ x = d ∨ H9.size ≤ x)) 1 1000 (fun x => x = a ∨ x = d ∨ H9.size ≤ x) := by
  refine Met.ofW (cc := cJx4a65c_add_72be8) (maxL := 4) (ret := none) (by decide) rfl ?_
  intro p e s m args below meth c s₁ B hml hv
  obtain ⟨rfl, hK, hI⟩ := hv
  have hx := B.exec
  have hb := B.bytes
  have hr := B.returns
  have hts := atoms_spec (ws := wsJx4a65c_add_72be8) B.pre
  have hown : s.vm.findClass RJx4a65c = some m.cls := findClass_of_methodNamed B.named
  have hlocks := B.notSynchronized
  have hl := lv_entry ([.ref a, .ref w, .ref d, .int (nI n)]) (n := 4) (Nat.le_of_ble_eq_true rfl)
  rw [lg_entry_eq]
  generalize (lg_sl ([.ref a, .ref w, .ref d, .int (nI n)]) ++ List.replicate (4 - (lg_sl ([.ref a, .ref w, .ref d, .int (nI n)])).length) Slot.unset).toArray = ls at hl ⊢
  have hl : lv_has ls 4 [(0, .ref a), (1, .ref w), (2, .ref d), (3, .int (nI n))] := hl
  have h_Jx4a65c : ∀ w ∈ wsJx4a65c0, w ∈ wsJx4a65c_add_72be8 := fun _ h => List.mem_cons_of_mem _ (List.mem_append_right _ h)
  obtain ⟨hH9, hO, hQ, hW, hEl⟩ := hI
  subst hH9
  have hS : va_S (fun x => x = a ∨ x = d ∨ s.heap.size ≤ x) s.heap s.heap [] := va_S.rf
  refine lv_iload_n hx hb dJx4a65c_add_72be8_0 rfl (lv_at hl 3 rfl) ?_
  refine lv_aload_n hx hb dJx4a65c_add_72be8_1 rfl (lv_at hl 2 rfl) ?_
  refine x_alen hx hb hK 4 rfl hQ dJx4a65c_add_72be8_2 ?_
  refine lv_icmp_ne (tgt := 11) hx hb dJx4a65c_add_72be8_3 (by decide) (fun q => absurd rfl q) (fun _ => ?_)
  refine lv_aload_n hx hb dJx4a65c_add_72be8_6 rfl (lv_at hl 0 rfl) ?_
  have hlt := x_lt hO
  refine xw_callr (va_runV (As := []) (rest := []) ⟨hx, hb, hml, hown, hts⟩ (c_Jx4a65c_grow_d5877_f l D cA a d n mc f h0 hn hne ci r9 hc hca s.heap) (cwV 0 hts gJx4a65c_add_72be8_Jx4a65c_grow_d5877 rfl rfl rfl (by decide +kernel) ⟨Nat.le_of_ble_eq_true rfl, Nat.le_of_ble_eq_true rfl⟩) (xPV hK hO rfl ⟨rfl, hO, hQ, hEl⟩) rfl rfl hl.1 rfl (lv_room (Nat.le_of_ble_eq_true rfl)) dJx4a65c_add_72be8_7 ⟨Nat.le_of_ble_eq_true rfl, Nat.le_of_ble_eq_true rfl⟩) hS (fun _ _ h => h) (fun _ h => h) (fun q H locs hJ z9 q9 hS => ?_)
  obtain ⟨hq1, hO, hN1⟩ := hJ
  have hW := va_at.kept hW (q9 w (x_lt hW) (fun h => h.elim hwa (fun h => h.elim hwd (fun e => absurd e (Nat.not_le.mpr (x_lt hW))))))
  refine lv_astore_n (lv' := [(2, .ref q), (0, .ref a), (1, .ref w), (3, .int (nI n))]) hx hb dJx4a65c_add_72be8_10 rfl hl (by decide) rfl (fun ls hl => ?_)
  refine lv_aload_n hx hb dJx4a65c_add_72be8_11 rfl (lv_at hl 0 rfl) ?_
  refine lv_iload_n hx hb dJx4a65c_add_72be8_12 rfl (lv_at hl 3 rfl) ?_
  refine lv_aload_n hx hb dJx4a65c_add_72be8_13 rfl (lv_at hl 2 rfl) ?_
  refine x_aast hx hb hK 4 rfl hN1 hS (Or.inr (Or.inr hq1)) hW hc (hK.2.2.2.2.2.2.2.2 _ hca) n rfl (by omega) (by omega) dJx4a65c_add_72be8_14 (fun H locs hN1 z9 q9 hS => ?_)
  have hO := va_at.kept hO (q9 a (by omega))
  refine lv_aload_n hx hb dJx4a65c_add_72be8_15 rfl (lv_at hl 1 rfl) ?_
  refine lv_iload_n hx hb dJx4a65c_add_72be8_16 rfl (lv_at hl 3 rfl) ?_
  refine lv_iconst (v := 1) hx hb dJx4a65c_add_72be8_17 (by decide) ?_
  refine xe_iadd hx hb (nI_1 n) dJx4a65c_add_72be8_18 ?_
  refine x_put hx hb hts h_Jx4a65c tyJx4a65c tyJx4a65c_ok nmJx4a65c hown hK hO hS (Or.inl rfl) rfl 2 (by decide) (hts (.fieldLink RJx4a65c 48 "java/util/ArrayList" "size" "I") (by decide +kernel)) (fun _ h => h) rfl (tyJx4a65c_ok 2 (by decide)) rfl rfl (Nat.le_of_ble_eq_true rfl) dJx4a65c_add_72be8_19 (fun H locs hO z9 q9 hS => ?_)
  have hO : xO D a 0 [.int mc, .ref q, .int (nI (n + 1))] H := hO
  have hN1 := x_kept hN1 (q9 _ (by omega))
  exact xw_vret hx hb hr hlocks hS ⟨rfl, q, _, _, Or.inr hq1, hO, hN1, by omega, by omega, fun j hj => by simp [va_up, Nat.ne_of_lt hj, hj], by simp [va_up]⟩ (Nat.le_refl _) (Nat.le_refl _) dJx4a65c_add_72be8_22
set_option maxHeartbeats 4000000 in
set_option maxRecDepth 100000 in
theorem c_Jx4a65c_add_72be8_e (l : Launch) (D : va_G) (cA : Nat → ClassId) (a z : Nat) (mc : Int32) (H9 : Heap) (f : Nat → Option Nat) (ci : Nat) (r9 : vw_C) (hc : vwCl[ci]? = some r9) (hca : (r9.1, "java/lang/Object") ∈ xCast) (w : Nat) (vs : List Value) (hwa : ¬ w = a)  : Met l yJx4a65c_add_72be8 wsJx4a65c_add_72be8 (rmK 4 1 1000) (xPX D cA (fun U => zK (fun x => x = a ∨ H9.size ≤ x) z U) [.ref a, .ref w, .ref z, .int (nI 0)] (fun H => H = H9 ∧ xO D a 0 [.int mc, .ref z, .int (nI 0)] H ∧ xO D w ci vs H)) (xW (xV none (fun H => ∃ q cap2 f2, H9.size ≤ q ∧ xO D a 0 [.int mc, .ref q, .int (nI (0 + 1))] H ∧ xQ (cA 4) q cap2 f2 H ∧ 0 + 1 ≤ cap2 ∧ cap2 ≤ 1000 ∧ (∀ j, j < 0 → f2 j = f j) ∧ f2 0 = some w)) (fun x => x = a ∨ H9.size ≤ x)) 1 1000 (fun x => x = a ∨ H9.size ≤ x) := by
  refine Met.ofW (cc := cJx4a65c_add_72be8) (maxL := 4) (ret := none) (by decide) rfl ?_
  intro p e s m args below meth c s₁ B hml hv
  obtain ⟨rfl, ⟨hK, hX⟩, hI⟩ := hv
  have hx := B.exec
  have hb := B.bytes
  have hr := B.returns
  have hts := atoms_spec (ws := wsJx4a65c_add_72be8) B.pre
  have hown : s.vm.findClass RJx4a65c = some m.cls := findClass_of_methodNamed B.named
  have hlocks := B.notSynchronized
  have hl := lv_entry ([.ref a, .ref w, .ref z, .int (nI 0)]) (n := 4) (Nat.le_of_ble_eq_true rfl)
  rw [lg_entry_eq]
  generalize (lg_sl ([.ref a, .ref w, .ref z, .int (nI 0)]) ++ List.replicate (4 - (lg_sl ([.ref a, .ref w, .ref z, .int (nI 0)])).length) Slot.unset).toArray = ls at hl ⊢
  have hl : lv_has ls 4 [(0, .ref a), (1, .ref w), (2, .ref z), (3, .int (nI 0))] := hl
  have h_Jx4a65c : ∀ w ∈ wsJx4a65c0, w ∈ wsJx4a65c_add_72be8 := fun _ h => List.mem_cons_of_mem _ (List.mem_append_right _ h)
  obtain ⟨hH9, hO, hW⟩ := hI
  subst hH9
  have hS : va_S (fun x => x = a ∨ s.heap.size ≤ x) s.heap s.heap [] := va_S.rf
  refine lv_iload_n hx hb dJx4a65c_add_72be8_0 rfl (lv_at hl 3 rfl) ?_
  refine lv_aload_n hx hb dJx4a65c_add_72be8_1 rfl (lv_at hl 2 rfl) ?_
  refine x_zlen hx hb hX hS dJx4a65c_add_72be8_2 ?_
  refine lv_icmp_ne (tgt := 11) hx hb dJx4a65c_add_72be8_3 (by decide) (fun c_1 => absurd c_1 (by decide)) (fun _ => ?_)
  refine lv_aload_n hx hb dJx4a65c_add_72be8_6 rfl (lv_at hl 0 rfl) ?_
  have hlt := x_lt hO
  refine xw_callr (va_runV (As := []) (rest := []) ⟨hx, hb, hml, hown, hts⟩ (c_Jx4a65c_grow_d5877_e l D cA a z mc s.heap) (cwV 0 hts gJx4a65c_add_72be8_Jx4a65c_grow_d5877 rfl rfl rfl (by decide +kernel) ⟨Nat.le_of_ble_eq_true rfl, Nat.le_of_ble_eq_true rfl⟩) (xPXV hK zK.blind (fun U hU hW => hX.at hS (fun _ h => h) hU hW) hO rfl ⟨rfl, hO⟩) rfl rfl hl.1 rfl (lv_room (Nat.le_of_ble_eq_true rfl)) dJx4a65c_add_72be8_7 ⟨Nat.le_of_ble_eq_true rfl, Nat.le_of_ble_eq_true rfl⟩) hS (fun _ _ h => h) (fun _ h => h) (fun q H locs hJ z9 q9 hS => ?_)
  obtain ⟨hq1, hO, hN1⟩ := hJ
  have hW := va_at.kept hW (q9 w (x_lt hW) (fun h => h.elim hwa (fun e => absurd e (Nat.not_le.mpr (x_lt hW)))))
  refine lv_astore_n (lv' := [(2, .ref q), (0, .ref a), (1, .ref w), (3, .int (nI 0))]) hx hb dJx4a65c_add_72be8_10 rfl hl (by decide) rfl (fun ls hl => ?_)
  refine lv_aload_n hx hb dJx4a65c_add_72be8_11 rfl (lv_at hl 0 rfl) ?_
  refine lv_iload_n hx hb dJx4a65c_add_72be8_12 rfl (lv_at hl 3 rfl) ?_
  refine lv_aload_n hx hb dJx4a65c_add_72be8_13 rfl (lv_at hl 2 rfl) ?_
  refine x_aast hx hb hK 4 rfl hN1 hS (Or.inr hq1) hW hc (hK.2.2.2.2.2.2.2.2 _ hca) 0 rfl (by omega) (by omega) dJx4a65c_add_72be8_14 (fun H locs hN1 z9 q9 hS => ?_)
  have hO := va_at.kept hO (q9 a (by omega))
  refine lv_aload_n hx hb dJx4a65c_add_72be8_15 rfl (lv_at hl 1 rfl) ?_
  refine lv_iload_n hx hb dJx4a65c_add_72be8_16 rfl (lv_at hl 3 rfl) ?_
  refine lv_iconst (v := 1) hx hb dJx4a65c_add_72be8_17 (by decide) ?_
  refine xe_iadd hx hb (nI_1 0) dJx4a65c_add_72be8_18 ?_
  refine x_put hx hb hts h_Jx4a65c tyJx4a65c tyJx4a65c_ok nmJx4a65c hown hK hO hS (Or.inl rfl) rfl 2 (by decide) (hts (.fieldLink RJx4a65c 48 "java/util/ArrayList" "size" "I") (by decide +kernel)) (fun _ h => h) rfl (tyJx4a65c_ok 2 (by decide)) rfl rfl (Nat.le_of_ble_eq_true rfl) dJx4a65c_add_72be8_19 (fun H locs hO z9 q9 hS => ?_)
  have hO : xO D a 0 [.int mc, .ref q, .int (nI (0 + 1))] H := hO
  have hN1 := x_kept hN1 (q9 _ (by omega))
  exact xw_vret hx hb hr hlocks hS ⟨rfl, q, _, _, hq1, hO, hN1, by omega, by omega, fun j hj => absurd hj (Nat.not_lt_zero _), by simp [va_up]⟩ (Nat.le_refl _) (Nat.le_refl _) dJx4a65c_add_72be8_22
set_option maxHeartbeats 4000000 in
set_option maxRecDepth 100000 in
theorem c_Jx4a65c_add_72be8_r (l : Launch) (D : va_G) (cA : Nat → ClassId) (a d n cap : Nat) (mc : Int32) (f : Nat → Option Nat) (hn : n < cap) (hn2 : cap ≤ 1000) (hne : ¬ a = d) (ci : Nat) (r9 : vw_C) (hc : vwCl[ci]? = some r9) (hca : (r9.1, "java/lang/Object") ∈ xCast) (H9 : Heap) (w : Nat) (vs : List Value) (hwa : ¬ w = a)  : Met l yJx4a65c_add_72be8 wsJx4a65c_add_72be8 (rmK 4 1 1000) (xP D cA [.ref a, .ref w, .ref d, .int (nI n)] (fun H => H = H9 ∧ xO D a 0 [.int mc, .ref d, .int (nI n)] H ∧ xQ (cA 4) d cap f H ∧ xO D w ci vs H)) (xW (xV none (fun H => ∃ q cap2 f2, (q = d ∨ H9.size ≤ q) ∧ xO D a 0 [.int mc, .ref q, .int (nI (n + 1))] H ∧ xQ (cA 4) q cap2 f2 H ∧ n + 1 ≤ cap2 ∧ cap2 ≤ 1000 ∧ (∀ j, j < n → f2 j = f j) ∧ f2 n = some w)) (fun x => x = a ∨ x = d ∨ H9.size ≤ x)) 1 1000 (fun x => x = a ∨ x = d ∨ H9.size ≤ x) := by
  refine Met.ofW (cc := cJx4a65c_add_72be8) (maxL := 4) (ret := none) (by decide) rfl ?_
  intro p e s m args below meth c s₁ B hml hv
  obtain ⟨rfl, hK, hI⟩ := hv
  have hx := B.exec
  have hb := B.bytes
  have hr := B.returns
  have hts := atoms_spec (ws := wsJx4a65c_add_72be8) B.pre
  have hown : s.vm.findClass RJx4a65c = some m.cls := findClass_of_methodNamed B.named
  have hlocks := B.notSynchronized
  have hl := lv_entry ([.ref a, .ref w, .ref d, .int (nI n)]) (n := 4) (Nat.le_of_ble_eq_true rfl)
  rw [lg_entry_eq]
  generalize (lg_sl ([.ref a, .ref w, .ref d, .int (nI n)]) ++ List.replicate (4 - (lg_sl ([.ref a, .ref w, .ref d, .int (nI n)])).length) Slot.unset).toArray = ls at hl ⊢
  have hl : lv_has ls 4 [(0, .ref a), (1, .ref w), (2, .ref d), (3, .int (nI n))] := hl
  have h_Jx4a65c : ∀ w ∈ wsJx4a65c0, w ∈ wsJx4a65c_add_72be8 := fun _ h => List.mem_cons_of_mem _ (List.mem_append_right _ h)
  obtain ⟨hH9, hO, hQ, hW⟩ := hI
  subst hH9
  have hS : va_S (fun x => x = a ∨ x = d ∨ s.heap.size ≤ x) s.heap s.heap [] := va_S.rf
  refine lv_iload_n hx hb dJx4a65c_add_72be8_0 rfl (lv_at hl 3 rfl) ?_
  refine lv_aload_n hx hb dJx4a65c_add_72be8_1 rfl (lv_at hl 2 rfl) ?_
  refine x_alen hx hb hK 4 rfl hQ dJx4a65c_add_72be8_2 ?_
  refine lv_icmp_ne (tgt := 11) hx hb dJx4a65c_add_72be8_3 (by decide) (fun _ => ?_) (fun q => absurd (nI_lt (a := n) (b := cap) (by omega) (by omega)) (by rw [q]; exact Int32.lt_irrefl))
  refine lv_aload_n hx hb dJx4a65c_add_72be8_11 rfl (lv_at hl 2 rfl) ?_
  refine lv_iload_n hx hb dJx4a65c_add_72be8_12 rfl (lv_at hl 3 rfl) ?_
  refine lv_aload_n hx hb dJx4a65c_add_72be8_13 rfl (lv_at hl 1 rfl) ?_
  refine x_aast hx hb hK 4 rfl hQ hS (Or.inr (Or.inl rfl)) hW hc (hK.2.2.2.2.2.2.2.2 _ hca) n rfl (by omega) (by omega) dJx4a65c_add_72be8_14 (fun H locs hQ z9 q9 hS => ?_)
  have hO := va_at.kept hO (q9 a hne)
  refine lv_aload_n hx hb dJx4a65c_add_72be8_15 rfl (lv_at hl 0 rfl) ?_
  refine lv_iload_n hx hb dJx4a65c_add_72be8_16 rfl (lv_at hl 3 rfl) ?_
  refine lv_iconst (v := 1) hx hb dJx4a65c_add_72be8_17 (by decide) ?_
  refine xe_iadd hx hb (nI_1 n) dJx4a65c_add_72be8_18 ?_
  refine x_put hx hb hts h_Jx4a65c tyJx4a65c tyJx4a65c_ok nmJx4a65c hown hK hO hS (Or.inl rfl) rfl 2 (by decide) (hts (.fieldLink RJx4a65c 48 "java/util/ArrayList" "size" "I") (by decide +kernel)) (fun _ h => h) rfl (tyJx4a65c_ok 2 (by decide)) rfl rfl (Nat.le_of_ble_eq_true rfl) dJx4a65c_add_72be8_19 (fun H locs hO z9 q9 hS => ?_)
  have hO : xO D a 0 [.int mc, .ref d, .int (nI (n + 1))] H := hO
  have hQ := x_kept hQ (q9 _ (by omega))
  exact xw_vret hx hb hr hlocks hS ⟨rfl, d, cap, _, Or.inl rfl, hO, hQ, by omega, by omega, fun j hj => by simp [va_up, Nat.ne_of_lt hj], by simp [va_up]⟩ (Nat.zero_le _) (Nat.zero_le _) dJx4a65c_add_72be8_22
set_option maxHeartbeats 4000000 in
set_option maxRecDepth 100000 in
theorem c_Jx4a65c_add_9ea2d (l : Launch) (D : va_G) (cA : Nat → ClassId) (a d n cap z : Nat) (mc : Int32) (f : Nat → Option Nat) (hn : n ≤ 600) (hcap : cap ≤ 1000) (hnc : n ≤ cap) (hne : ¬ a = d) (hz : n = 0 → d = z) (ci : Nat) (r9 : vw_C) (hc : vwCl[ci]? = some r9) (hca : (r9.1, "java/lang/Object") ∈ xCast) (H9 : Heap) (w : Nat) (vs : List Value) (hwa : ¬ w = a) (hwd : 0 < n → ¬ w = d) : Met l yJx4a65c_add_9ea2d wsJx4a65c_add_9ea2d (rmK 5 1 1000) (xPX D cA (fun U => zK (fun x => x = a ∨ (0 < n ∧ x = d) ∨ H9.size ≤ x) z U) [.ref a, .ref w] (fun H => H = H9 ∧ xO D a 0 [.int mc, .ref d, .int (nI n)] H ∧ (0 < n → xQ (cA 4) d cap f H) ∧ xO D w ci vs H ∧ ∀ j, j < n → ∀ y, f j = some y → ¬ y = a ∧ ∃ fs, xO D y ci fs H)) (xW (xV (some (.int 1)) (fun H => ∃ q cap2 f2, ((0 < n ∧ q = d) ∨ H9.size ≤ q) ∧ xO D a 0 [.int (mc + 1), .ref q, .int (nI (n + 1))] H ∧ xQ (cA 4) q cap2 f2 H ∧ n + 1 ≤ cap2 ∧ cap2 ≤ 1000 ∧ (∀ j, j < n → f2 j = f j) ∧ f2 n = some w)) (fun x => x = a ∨ (0 < n ∧ x = d) ∨ H9.size ≤ x)) 1 1000 (fun x => x = a ∨ (0 < n ∧ x = d) ∨ H9.size ≤ x) := by
  refine Met.ofW (cc := cJx4a65c_add_9ea2d) (maxL := 2) (ret := (some .boolean)) (by decide) rfl ?_
  intro p e s m args below meth c s₁ B hml hv
  obtain ⟨rfl, ⟨hK, hX⟩, hI⟩ := hv
  have hx := B.exec
  have hb := B.bytes
  have hr := B.returns
  have hts := atoms_spec (ws := wsJx4a65c_add_9ea2d) B.pre
  have hown : s.vm.findClass RJx4a65c = some m.cls := findClass_of_methodNamed B.named
  have hlocks := B.notSynchronized
  have hl := lv_entry ([.ref a, .ref w]) (n := 2) (Nat.le_of_ble_eq_true rfl)
  rw [lg_entry_eq]
  generalize (lg_sl ([.ref a, .ref w]) ++ List.replicate (2 - (lg_sl ([.ref a, .ref w])).length) Slot.unset).toArray = ls at hl ⊢
  have hl : lv_has ls 2 [(0, .ref a), (1, .ref w)] := hl
  have h_Jx4a65c : ∀ w ∈ wsJx4a65c0, w ∈ wsJx4a65c_add_9ea2d := fun _ h => List.mem_cons_of_mem _ (List.mem_append_right _ h)
  obtain ⟨hH9, hO, hQ, hW, hEl⟩ := hI
  subst hH9
  have hS : va_S (fun x => x = a ∨ (0 < n ∧ x = d) ∨ s.heap.size ≤ x) s.heap s.heap [] := va_S.rf
  refine lv_aload_n hx hb dJx4a65c_add_9ea2d_0 rfl (lv_at hl 0 rfl) ?_
  refine lv_dup hx hb dJx4a65c_add_9ea2d_1 rfl ?_
  refine x_get (v := .int mc) hx hb hts h_Jx4a65c hown hK hO rfl 0 (by decide) (hts (.fieldLink RJx4a65c 63 "java/util/ArrayList" "modCount" "I") (by decide +kernel)) (fun x h => u_same (hts (.sameField "java/util/ArrayList" "java/util/AbstractList" "modCount" "I") (by decide +kernel)) x h) rfl dJx4a65c_add_9ea2d_2 ?_
  refine lv_iconst (v := 1) hx hb dJx4a65c_add_9ea2d_5 (by decide) ?_
  refine lv_iadd hx hb dJx4a65c_add_9ea2d_6 ?_
  have hlt := x_lt hO
  refine x_put hx hb hts h_Jx4a65c tyJx4a65c tyJx4a65c_ok nmJx4a65c hown hK hO hS (Or.inl rfl) rfl 0 (by decide) (hts (.fieldLink RJx4a65c 63 "java/util/ArrayList" "modCount" "I") (by decide +kernel)) (fun x h => u_same (hts (.sameField "java/util/ArrayList" "java/util/AbstractList" "modCount" "I") (by decide +kernel)) x h) rfl (tyJx4a65c_ok 0 (by decide)) rfl rfl (Nat.le_of_ble_eq_true rfl) dJx4a65c_add_9ea2d_7 (fun H locs hO z9 q9 hS => ?_)
  have hO : xO D a 0 [.int (mc + 1), .ref d, .int (nI n)] H := hO
  have hQ : 0 < n → xQ (cA 4) d cap f H := fun h => x_kept (hQ h) (q9 _ (Ne.symm hne))
  have hW := va_at.kept hW (q9 _ hwa)
  have hEl : ∀ j, j < n → ∀ y, f j = some y → ∃ fs, xO D y ci fs H := fun j hj y hy => (hEl j hj y hy).2.elim (fun fs h => ⟨fs, va_at.kept h (q9 _ (hEl j hj y hy).1)⟩)
  have hs1 := hS.1
  refine lv_aload_n hx hb dJx4a65c_add_9ea2d_10 rfl (lv_at hl 0 rfl) ?_
  refine lv_aload_n hx hb dJx4a65c_add_9ea2d_11 rfl (lv_at hl 1 rfl) ?_
  refine lv_aload_n hx hb dJx4a65c_add_9ea2d_12 rfl (lv_at hl 0 rfl) ?_
  refine x_get (v := .ref d) hx hb hts h_Jx4a65c hown hK hO rfl 1 (by decide) (hts (.fieldLink RJx4a65c 9 "java/util/ArrayList" "elementData" "[Ljava/lang/Object;") (by decide +kernel)) (fun _ h => h) rfl dJx4a65c_add_9ea2d_13 ?_
  refine lv_aload_n hx hb dJx4a65c_add_9ea2d_16 rfl (lv_at hl 0 rfl) ?_
  refine x_get (v := .int (nI n)) hx hb hts h_Jx4a65c hown hK hO rfl 2 (by decide) (hts (.fieldLink RJx4a65c 48 "java/util/ArrayList" "size" "I") (by decide +kernel)) (fun _ h => h) rfl dJx4a65c_add_9ea2d_17 ?_
  rcases Nat.eq_zero_or_pos n with h0 | h0
  · have e0 := hz h0
    subst e0
    subst h0
    refine xw_calln (va_runV (As := [.ref w, .ref d, .int (nI 0)]) (rest := []) ⟨hx, hb, hml, hown, hts⟩ (c_Jx4a65c_add_72be8_e l D cA a d (mc + 1) H f ci r9 hc hca w vs hwa) (cwV 3 hts gJx4a65c_add_9ea2d_Jx4a65c_add_72be8 rfl rfl rfl (by decide +kernel) ⟨Nat.le_of_ble_eq_true rfl, Nat.le_of_ble_eq_true rfl⟩) (xPXV hK zK.blind (fun U hU hW => hX.at hS (fun _ h => h.elim (fun e => Or.inl e) (fun e => Or.inr (Or.inr (Nat.le_trans hs1 e)))) hU hW) hO rfl ⟨rfl, hO, hW⟩) rfl rfl hl.1 rfl (lv_room (Nat.le_of_ble_eq_true rfl)) dJx4a65c_add_9ea2d_20 ⟨Nat.le_of_ble_eq_true rfl, Nat.le_of_ble_eq_true rfl⟩) hS (fun _ _ h => h.elim (fun e => Or.inl e) (fun e => Or.inr (Or.inr (Nat.le_trans hs1 e)))) (fun _ h => h.elim (fun e => Or.inl e) (fun e => Or.inr (Or.inr (Nat.le_trans hs1 e)))) (fun H locs hJ z9 q9 hS => ?_)
    obtain ⟨q, cap2, f2, hq1, hO, hQ2, r1, r2, r3, r4⟩ := hJ
    refine lv_iconst (v := 1) hx hb dJx4a65c_add_9ea2d_23 (by decide) ?_
    exact xw_zret (b := true) hx hb hr hlocks rfl hS ⟨rfl, q, cap2, f2, Or.inr (Nat.le_trans hs1 hq1), hO, hQ2, r1, r2, r3, r4⟩ (Nat.le_refl _) (Nat.le_refl _) dJx4a65c_add_9ea2d_24
  · have hwd := hwd h0
    have hQ := hQ h0
    rcases Nat.lt_or_ge n cap with hl2 | hl2
    · refine xw_calln (va_runV (As := [.ref w, .ref d, .int (nI n)]) (rest := []) ⟨hx, hb, hml, hown, hts⟩ (c_Jx4a65c_add_72be8_r l D cA a d n cap (mc + 1) f hl2 hcap hne ci r9 hc hca H w vs hwa) (cwV 3 hts gJx4a65c_add_9ea2d_Jx4a65c_add_72be8 rfl rfl rfl (by decide +kernel) ⟨Nat.le_of_ble_eq_true rfl, Nat.le_of_ble_eq_true rfl⟩) (xPV hK hO rfl ⟨rfl, hO, hQ, hW⟩) rfl rfl hl.1 rfl (lv_room (Nat.le_of_ble_eq_true rfl)) dJx4a65c_add_9ea2d_20 ⟨Nat.le_of_ble_eq_true rfl, Nat.le_of_ble_eq_true rfl⟩) hS (fun _ _ h => h.elim (fun e => Or.inl e) (fun h => h.elim (fun e => Or.inr (Or.inl ⟨h0, e⟩)) (fun e => Or.inr (Or.inr (Nat.le_trans hs1 e))))) (fun _ h => h.elim (fun e => Or.inl e) (fun h => h.elim (fun e => Or.inr (Or.inl ⟨h0, e⟩)) (fun e => Or.inr (Or.inr (Nat.le_trans hs1 e))))) (fun H locs hJ z9 q9 hS => ?_)
      obtain ⟨q, cap2, f2, hq1, hO, hQ2, r1, r2, r3, r4⟩ := hJ
      refine lv_iconst (v := 1) hx hb dJx4a65c_add_9ea2d_23 (by decide) ?_
      exact xw_zret (b := true) hx hb hr hlocks rfl hS ⟨rfl, q, cap2, f2, hq1.elim (fun e => Or.inl ⟨h0, e⟩) (fun e => Or.inr (Nat.le_trans hs1 e)), hO, hQ2, r1, r2, r3, r4⟩ (Nat.le_refl _) (Nat.le_refl _) dJx4a65c_add_9ea2d_24
    · have e2 : n = cap := (by omega)
      subst e2
      refine xw_calln (va_runV (As := [.ref w, .ref d, .int (nI n)]) (rest := []) ⟨hx, hb, hml, hown, hts⟩ (c_Jx4a65c_add_72be8_f l D cA a d n (mc + 1) f h0 (by omega) hne ci r9 hc hca H w vs hwa hwd) (cwV 3 hts gJx4a65c_add_9ea2d_Jx4a65c_add_72be8 rfl rfl rfl (by decide +kernel) ⟨Nat.le_of_ble_eq_true rfl, Nat.le_of_ble_eq_true rfl⟩) (xPV hK hO rfl ⟨rfl, hO, hQ, hW, hEl⟩) rfl rfl hl.1 rfl (lv_room (Nat.le_of_ble_eq_true rfl)) dJx4a65c_add_9ea2d_20 ⟨Nat.le_of_ble_eq_true rfl, Nat.le_of_ble_eq_true rfl⟩) hS (fun _ _ h => h.elim (fun e => Or.inl e) (fun h => h.elim (fun e => Or.inr (Or.inl ⟨h0, e⟩)) (fun e => Or.inr (Or.inr (Nat.le_trans hs1 e))))) (fun _ h => h.elim (fun e => Or.inl e) (fun h => h.elim (fun e => Or.inr (Or.inl ⟨h0, e⟩)) (fun e => Or.inr (Or.inr (Nat.le_trans hs1 e))))) (fun H locs hJ z9 q9 hS => ?_)
      obtain ⟨q, cap2, f2, hq1, hO, hQ2, r1, r2, r3, r4⟩ := hJ
      refine lv_iconst (v := 1) hx hb dJx4a65c_add_9ea2d_23 (by decide) ?_
      exact xw_zret (b := true) hx hb hr hlocks rfl hS ⟨rfl, q, cap2, f2, hq1.elim (fun e => Or.inl ⟨h0, e⟩) (fun e => Or.inr (Nat.le_trans hs1 e)), hO, hQ2, r1, r2, r3, r4⟩ (Nat.le_refl _) (Nat.le_refl _) dJx4a65c_add_9ea2d_24
