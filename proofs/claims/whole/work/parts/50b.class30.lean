set_option maxHeartbeats 4000000 in
set_option maxRecDepth 100000 in
theorem c_X6_enter_s (l : Launch) (D : va_G) (cA : Nat → ClassId) (lab : Nat → Nat) (nm : Nat → Nat → Nat) (rf : Nat → Nat → Option Nat) (f : Nat → Nat → Int32) (nC nL nV : Nat) (hi : CRi f nC nL nV) (A : Nat → Prop) (hl9 : CRl A lab nm rf nC nL) (H9 : Heap) (hAn : ∀ q, H9.size ≤ q → A q) (i9 j9 : Nat) (y9 : Int32) (hi9 : i9 < nL) (hj9 : j9 < 16) (e9 : Nat) (he10 : lab e9 = 10) : Met l yX6_enter wsX6_enter (rmK 7 3 1129) (xPX D cA (fun U => zK A (nm 12 0) U) [.ref (nm 0 0), .int (nI i9), .int (nI j9), .ref e9] (fun H => H = H9 ∧ CRv D cA lab nm rf f nC nL nV H ∧ IQ0 D cA nm H ∧ eR D (some e9) y9 H)) (xW (xV none (fun H => if cntF (dfF f (exF f (16 * i9 + j9) y9)) (16 * nL) = 0 then CS D cA A (nm 12 0) (nm 0 0) f nC nL nV H else CS D cA A (nm 12 0) (nm 0 0) (tuG f (exF f (16 * i9 + j9) y9) nV (16 * nL)) nC nL (nV + 1) H)) A) 3 1129 A := by
  refine Met.ofW (cc := cX6_enter) (maxL := 4) (ret := none) (by decide) rfl ?_
  intro p e s m args below meth c s₁ B hml hv
  obtain ⟨rfl, ⟨hK, hX⟩, hI⟩ := hv
  have hx := B.exec
  have hb := B.bytes
  have hr := B.returns
  have hts := atoms_spec (ws := wsX6_enter) B.pre
  have hown : s.vm.findClass RX6 = some m.cls := findClass_of_methodNamed B.named
  have hlocks := B.notSynchronized
  have hl := lv_entry ([.ref (nm 0 0), .int (nI i9), .int (nI j9), .ref e9]) (n := 4) (Nat.le_of_ble_eq_true rfl)
  rw [lg_entry_eq]
  generalize (lg_sl ([.ref (nm 0 0), .int (nI i9), .int (nI j9), .ref e9]) ++ List.replicate (4 - (lg_sl ([.ref (nm 0 0), .int (nI i9), .int (nI j9), .ref e9])).length) Slot.unset).toArray = ls at hl ⊢
  have hl : lv_has ls 4 [(0, .ref (nm 0 0)), (1, .int (nI i9)), (2, .int (nI j9)), (3, .ref e9)] := hl
  have h_X1 : ∀ w ∈ wsX10, w ∈ wsX6_enter := fun _ h => List.mem_cons_of_mem _ (List.mem_append_left _ (List.mem_append_left _ (List.mem_append_left _ (List.mem_append_right _ h))))
  have h_X2 : ∀ w ∈ wsX20, w ∈ wsX6_enter := fun _ h => List.mem_cons_of_mem _ (List.mem_append_right _ h)
  have h_X4 : ∀ w ∈ wsX40, w ∈ wsX6_enter := fun _ h => List.mem_cons_of_mem _ (List.mem_append_left _ (List.mem_append_left _ (List.mem_append_right _ h)))
  have h_X6 : ∀ w ∈ wsX60, w ∈ wsX6_enter := fun _ h => List.mem_cons_of_mem _ (List.mem_append_left _ (List.mem_append_left _ (List.mem_append_left _ (List.mem_append_left _ (List.mem_append_right _ h)))))
  have h_Jx4a65c : ∀ w ∈ wsJx4a65c0, w ∈ wsX6_enter := fun _ h => List.mem_cons_of_mem _ (List.mem_append_left _ (List.mem_append_right _ h))
  obtain ⟨hH9, hV, hIQ, hEe⟩ := hI
  subst hH9
  have hS : va_S A s.heap s.heap [] := va_S.rf
  have hi0 := hi
  obtain ⟨b1, b2, b3, iSel, iGd, iCur, iZero, iLk, iLkA, iLkB⟩ := hi
  have hI9 := hV
  obtain ⟨hT, ⟨mcC, dC, capC, fC, hOC, hQC, hnC, hcC, hfC, hdC, hzC⟩, ⟨mcL, dL, capL, fL, hOL, hQL, hnL, hcL, hfL, hdL, hzL⟩, ⟨mcV, dV, capV, fV, hOV, hQV, hnV, hcV, hfV, hdV, hzV⟩, hC, hL, hHo, hRo, hCh, hRl, hEn⟩ := hI9
  refine lv_aload_n hx hb dX6_enter_0 rfl (lv_at hl 0 rfl) ?_
  refine lv_aload_n hx hb dX6_enter_1 rfl (lv_at hl 0 rfl) ?_
  refine x_get (v := .ref (nm 7 nV)) hx hb hts h_X6 hown hK hT rfl 4 (by decide) (hts (.fieldLink RX6 32 "ConfigBeacon" "current" "LConfigBeacon$Entries;") (by decide +kernel)) (fun _ h => h) rfl dX6_enter_2 ?_
  refine lv_iload_n hx hb dX6_enter_5 rfl (lv_at hl 1 rfl) ?_
  refine lv_iload_n hx hb dX6_enter_6 rfl (lv_at hl 2 rfl) ?_
  refine lv_aload_n hx hb dX6_enter_7 rfl (lv_at hl 3 rfl) ?_
  obtain ⟨ea9, ge9, hEo, hEq, hEr, hE10, hEa10, hEg⟩ := hEn nV (Nat.le_refl _)
  refine xw_call (va_runV (As := [.int (nI i9), .int (nI j9), .ref e9]) (rest := [.ref (nm 0 0)]) ⟨hx, hb, hml, hown, hts⟩ (c_X1_replacing_s l D cA (nm 7 nV) ea9 ge9 (fun k => f 12 (128 * nV + k)) y9 i9 j9 (by omega) hj9 e9 s.heap) (cwV 3 hts gX6_enter_X1_replacing rfl rfl rfl (by decide +kernel) ⟨Nat.le_of_ble_eq_true rfl, Nat.le_of_ble_eq_true rfl⟩) (xPV hK hEo rfl ⟨rfl, hEo, hEq, hEr, hEe⟩) rfl rfl hl.1 rfl (lv_room (Nat.le_of_ble_eq_true rfl)) dX6_enter_8 ⟨Nat.le_of_ble_eq_true rfl, Nat.le_of_ble_eq_true rfl⟩) hS (fun q _ h => hAn q h) (fun q h => hAn q h) (fun r H locs hJ z9 q9 hS => ?_)
  obtain ⟨q, ea2, g2, rfl, gq, gea, hNo, hNq, hNg⟩ := hJ
  refine W.eq (g2 := F0 m 11 ls [.ref q, .ref (nm 0 0)]) rfl ?_
  have hold : ∀ x : Nat, x < s.heap.size → H[x]? = s.heap[x]? := fun x hx => q9 x hx (Nat.not_le.mpr hx)
  have hs9 : ∀ x, x < s.heap.size → lu (lu lab q 10) ea2 10 x = lab x := fun x hx => by rw [lu_un (by omega), lu_un (by omega)]
  obtain ⟨hV2, hIQ2⟩ := (CRv.keptX (lab' := lu (lu lab q 10) ea2 10) hV hl9 hIQ (fun _ => False) id (fun x h1 _ _ => hold x h1) hs9).all
  have hl2 := hl9.relab hV hIQ (lu_A (lu_A hl9.1 (hAn _ gq)) (hAn _ gea)) hs9
  have hEr2 : ∀ k, k < 128 → eR D (ge9 k) (f 12 (128 * nV + k)) H := fun k hk => (hEr k hk).keptS hold
  have hEe2 := hEe.keptS hold
  have hlo : ∀ y x, eR D (some y) x s.heap → lab y = 10 → lu (lu lab q 10) ea2 10 y = 10 := fun y x hy hl => by obtain ⟨b4, f4, s4, -, -, hO4⟩ := hy; rw [hs9 y (x_lt hO4)]; exact hl
  have hW2 : ENT D cA (lu (lu lab q 10) ea2 10) q (exF f (16 * i9 + j9) y9) H := ENT.ex (x := fun k => f 12 (128 * nV + k)) (o := (some e9)) hNo hNq hNg hEr2 (fun k hk => (iCur k hk).symm) hEe2 lu_tw lu_at (fun k y hk hy => hlo y _ (by have := hEr k hk; rw [hy] at this; exact this) (hEg k y hk hy)) (fun y hy => by cases hy; exact hlo _ _ hEe he10)
  have hsz := hS.1
  refine xw_call (va_runV (As := [.ref q]) (rest := []) ⟨hx, hb, hml, hown, hts⟩ (c_X6_turnInto l D cA (lu (lu lab q 10) ea2 10) nm rf f nC nL nV hi0 A hl2 H (fun x h => hAn x (Nat.le_trans hsz h)) q (exF f (16 * i9 + j9) y9)) (cwV 1 hts gX6_enter_X6_turnInto rfl rfl rfl (by decide +kernel) ⟨Nat.le_of_ble_eq_true rfl, Nat.le_of_ble_eq_true rfl⟩) (xPXV hK zK.blind (fun U hU hW => hX.at hS (fun _ h => h) hU hW) hV2.1 rfl ⟨rfl, hV2, hIQ2, hW2⟩) rfl rfl hl.1 rfl (lv_room (Nat.le_of_ble_eq_true rfl)) dX6_enter_11 ⟨Nat.le_of_ble_eq_true rfl, Nat.le_of_ble_eq_true rfl⟩) hS (fun _ _ h => h) (fun _ h => h) (fun r H9 locs hJ z9 q9 hS => ?_)
  obtain ⟨rfl, hJ⟩ := hJ
  refine W.eq (g2 := F0 m 14 ls [.int (nI (cntF (dfF f (exF f (16 * i9 + j9) y9)) (16 * nL)))]) rfl ?_
  refine lv_pop hx hb dX6_enter_14 rfl ?_
  exact xw_vret hx hb hr hlocks hS ⟨rfl, hJ⟩ (Nat.le_refl _) (Nat.le_refl _) dX6_enter_15
set_option maxHeartbeats 4000000 in
set_option maxRecDepth 100000 in
theorem c_X6_enter_n (l : Launch) (D : va_G) (cA : Nat → ClassId) (lab : Nat → Nat) (nm : Nat → Nat → Nat) (rf : Nat → Nat → Option Nat) (f : Nat → Nat → Int32) (nC nL nV : Nat) (hi : CRi f nC nL nV) (A : Nat → Prop) (hl9 : CRl A lab nm rf nC nL) (H9 : Heap) (hAn : ∀ q, H9.size ≤ q → A q) (i9 j9 : Nat) (y9 : Int32) (hi9 : i9 < nL) (hj9 : j9 < 16) : Met l yX6_enter wsX6_enter (rmK 7 3 1129) (xPX D cA (fun U => zK A (nm 12 0) U) [.ref (nm 0 0), .int (nI i9), .int (nI j9), .null] (fun H => H = H9 ∧ CRv D cA lab nm rf f nC nL nV H ∧ IQ0 D cA nm H ∧ eR D none y9 H)) (xW (xV none (fun H => if cntF (dfF f (exF f (16 * i9 + j9) y9)) (16 * nL) = 0 then CS D cA A (nm 12 0) (nm 0 0) f nC nL nV H else CS D cA A (nm 12 0) (nm 0 0) (tuG f (exF f (16 * i9 + j9) y9) nV (16 * nL)) nC nL (nV + 1) H)) A) 3 1129 A := by
  refine Met.ofW (cc := cX6_enter) (maxL := 4) (ret := none) (by decide) rfl ?_
  intro p e s m args below meth c s₁ B hml hv
  obtain ⟨rfl, ⟨hK, hX⟩, hI⟩ := hv
  have hx := B.exec
  have hb := B.bytes
  have hr := B.returns
  have hts := atoms_spec (ws := wsX6_enter) B.pre
  have hown : s.vm.findClass RX6 = some m.cls := findClass_of_methodNamed B.named
  have hlocks := B.notSynchronized
  have hl := lv_entry ([.ref (nm 0 0), .int (nI i9), .int (nI j9), .null]) (n := 4) (Nat.le_of_ble_eq_true rfl)
  rw [lg_entry_eq]
  generalize (lg_sl ([.ref (nm 0 0), .int (nI i9), .int (nI j9), .null]) ++ List.replicate (4 - (lg_sl ([.ref (nm 0 0), .int (nI i9), .int (nI j9), .null])).length) Slot.unset).toArray = ls at hl ⊢
  have hl : lv_has ls 4 [(0, .ref (nm 0 0)), (1, .int (nI i9)), (2, .int (nI j9)), (3, .null)] := hl
  have h_X1 : ∀ w ∈ wsX10, w ∈ wsX6_enter := fun _ h => List.mem_cons_of_mem _ (List.mem_append_left _ (List.mem_append_left _ (List.mem_append_left _ (List.mem_append_right _ h))))
  have h_X2 : ∀ w ∈ wsX20, w ∈ wsX6_enter := fun _ h => List.mem_cons_of_mem _ (List.mem_append_right _ h)
  have h_X4 : ∀ w ∈ wsX40, w ∈ wsX6_enter := fun _ h => List.mem_cons_of_mem _ (List.mem_append_left _ (List.mem_append_left _ (List.mem_append_right _ h)))
  have h_X6 : ∀ w ∈ wsX60, w ∈ wsX6_enter := fun _ h => List.mem_cons_of_mem _ (List.mem_append_left _ (List.mem_append_left _ (List.mem_append_left _ (List.mem_append_left _ (List.mem_append_right _ h)))))
  have h_Jx4a65c : ∀ w ∈ wsJx4a65c0, w ∈ wsX6_enter := fun _ h => List.mem_cons_of_mem _ (List.mem_append_left _ (List.mem_append_right _ h))
  obtain ⟨hH9, hV, hIQ, hEe⟩ := hI
  subst hH9
  have hS : va_S A s.heap s.heap [] := va_S.rf
  have hi0 := hi
  obtain ⟨b1, b2, b3, iSel, iGd, iCur, iZero, iLk, iLkA, iLkB⟩ := hi
  have hI9 := hV
  obtain ⟨hT, ⟨mcC, dC, capC, fC, hOC, hQC, hnC, hcC, hfC, hdC, hzC⟩, ⟨mcL, dL, capL, fL, hOL, hQL, hnL, hcL, hfL, hdL, hzL⟩, ⟨mcV, dV, capV, fV, hOV, hQV, hnV, hcV, hfV, hdV, hzV⟩, hC, hL, hHo, hRo, hCh, hRl, hEn⟩ := hI9
  refine lv_aload_n hx hb dX6_enter_0 rfl (lv_at hl 0 rfl) ?_
  refine lv_aload_n hx hb dX6_enter_1 rfl (lv_at hl 0 rfl) ?_
  refine x_get (v := .ref (nm 7 nV)) hx hb hts h_X6 hown hK hT rfl 4 (by decide) (hts (.fieldLink RX6 32 "ConfigBeacon" "current" "LConfigBeacon$Entries;") (by decide +kernel)) (fun _ h => h) rfl dX6_enter_2 ?_
  refine lv_iload_n hx hb dX6_enter_5 rfl (lv_at hl 1 rfl) ?_
  refine lv_iload_n hx hb dX6_enter_6 rfl (lv_at hl 2 rfl) ?_
  refine lv_aload_nN hx hb dX6_enter_7 rfl (lv_at hl 3 rfl) ?_
  obtain ⟨ea9, ge9, hEo, hEq, hEr, hE10, hEa10, hEg⟩ := hEn nV (Nat.le_refl _)
  refine xw_call (va_runV (As := [.int (nI i9), .int (nI j9), .null]) (rest := [.ref (nm 0 0)]) ⟨hx, hb, hml, hown, hts⟩ (c_X1_replacing_n l D cA (nm 7 nV) ea9 ge9 (fun k => f 12 (128 * nV + k)) y9 i9 j9 (by omega) hj9 s.heap) (cwV 3 hts gX6_enter_X1_replacing rfl rfl rfl (by decide +kernel) ⟨Nat.le_of_ble_eq_true rfl, Nat.le_of_ble_eq_true rfl⟩) (xPV hK hEo rfl ⟨rfl, hEo, hEq, hEr, hEe⟩) rfl rfl hl.1 rfl (lv_room (Nat.le_of_ble_eq_true rfl)) dX6_enter_8 ⟨Nat.le_of_ble_eq_true rfl, Nat.le_of_ble_eq_true rfl⟩) hS (fun q _ h => hAn q h) (fun q h => hAn q h) (fun r H locs hJ z9 q9 hS => ?_)
  obtain ⟨q, ea2, g2, rfl, gq, gea, hNo, hNq, hNg⟩ := hJ
  refine W.eq (g2 := F0 m 11 ls [.ref q, .ref (nm 0 0)]) rfl ?_
  have hold : ∀ x : Nat, x < s.heap.size → H[x]? = s.heap[x]? := fun x hx => q9 x hx (Nat.not_le.mpr hx)
  have hs9 : ∀ x, x < s.heap.size → lu (lu lab q 10) ea2 10 x = lab x := fun x hx => by rw [lu_un (by omega), lu_un (by omega)]
  obtain ⟨hV2, hIQ2⟩ := (CRv.keptX (lab' := lu (lu lab q 10) ea2 10) hV hl9 hIQ (fun _ => False) id (fun x h1 _ _ => hold x h1) hs9).all
  have hl2 := hl9.relab hV hIQ (lu_A (lu_A hl9.1 (hAn _ gq)) (hAn _ gea)) hs9
  have hEr2 : ∀ k, k < 128 → eR D (ge9 k) (f 12 (128 * nV + k)) H := fun k hk => (hEr k hk).keptS hold
  have hEe2 := hEe.keptS hold
  have hlo : ∀ y x, eR D (some y) x s.heap → lab y = 10 → lu (lu lab q 10) ea2 10 y = 10 := fun y x hy hl => by obtain ⟨b4, f4, s4, -, -, hO4⟩ := hy; rw [hs9 y (x_lt hO4)]; exact hl
  have hW2 : ENT D cA (lu (lu lab q 10) ea2 10) q (exF f (16 * i9 + j9) y9) H := ENT.ex (x := fun k => f 12 (128 * nV + k)) (o := none) hNo hNq hNg hEr2 (fun k hk => (iCur k hk).symm) hEe2 lu_tw lu_at (fun k y hk hy => hlo y _ (by have := hEr k hk; rw [hy] at this; exact this) (hEg k y hk hy)) (fun y hy => by cases hy)
  have hsz := hS.1
  refine xw_call (va_runV (As := [.ref q]) (rest := []) ⟨hx, hb, hml, hown, hts⟩ (c_X6_turnInto l D cA (lu (lu lab q 10) ea2 10) nm rf f nC nL nV hi0 A hl2 H (fun x h => hAn x (Nat.le_trans hsz h)) q (exF f (16 * i9 + j9) y9)) (cwV 1 hts gX6_enter_X6_turnInto rfl rfl rfl (by decide +kernel) ⟨Nat.le_of_ble_eq_true rfl, Nat.le_of_ble_eq_true rfl⟩) (xPXV hK zK.blind (fun U hU hW => hX.at hS (fun _ h => h) hU hW) hV2.1 rfl ⟨rfl, hV2, hIQ2, hW2⟩) rfl rfl hl.1 rfl (lv_room (Nat.le_of_ble_eq_true rfl)) dX6_enter_11 ⟨Nat.le_of_ble_eq_true rfl, Nat.le_of_ble_eq_true rfl⟩) hS (fun _ _ h => h) (fun _ h => h) (fun r H9 locs hJ z9 q9 hS => ?_)
  obtain ⟨rfl, hJ⟩ := hJ
  refine W.eq (g2 := F0 m 14 ls [.int (nI (cntF (dfF f (exF f (16 * i9 + j9) y9)) (16 * nL)))]) rfl ?_
  refine lv_pop hx hb dX6_enter_14 rfl ?_
  exact xw_vret hx hb hr hlocks hS ⟨rfl, hJ⟩ (Nat.le_refl _) (Nat.le_refl _) dX6_enter_15
set_option maxHeartbeats 4000000 in
set_option maxRecDepth 100000 in
theorem c_X6_versionR (l : Launch) (D : va_G) (cA : Nat → ClassId) (o9 l0 l1 l2 iq cu d9 v9 : Nat) (mc : Int32) : Met l yX6_version wsX6_version (rmK 1 0 0) (xP D cA [.ref o9] (fun H => xO D o9 7 [.ref l0, .ref l1, .ref l2, .ref iq, .ref cu] H ∧ xO D l2 0 [.int mc, .ref d9, .int (nI (v9 + 1))] H)) (xR (some (.int (nI v9)))) 0 0 (fun _ => False) := by
  refine Met.ofW (cc := cX6_version) (maxL := 1) (ret := (some .int)) (by decide) rfl ?_
  intro p e s m args below meth c s₁ B hml hv
  obtain ⟨rfl, hK, hI⟩ := hv
  have hx := B.exec
  have hb := B.bytes
  have hr := B.returns
  have hts := atoms_spec (ws := wsX6_version) B.pre
  have hown : s.vm.findClass RX6 = some m.cls := findClass_of_methodNamed B.named
  have hlocks := B.notSynchronized
  have hl := lv_entry ([.ref o9]) (n := 1) (Nat.le_of_ble_eq_true rfl)
  rw [lg_entry_eq]
  generalize (lg_sl ([.ref o9]) ++ List.replicate (1 - (lg_sl ([.ref o9])).length) Slot.unset).toArray = ls at hl ⊢
  have hl : lv_has ls 1 [(0, .ref o9)] := hl
  have h_X6 : ∀ w ∈ wsX60, w ∈ wsX6_version := fun _ h => List.mem_cons_of_mem _ (List.mem_append_left _ (List.mem_append_right _ h))
  have h_Jx4a65c : ∀ w ∈ wsJx4a65c0, w ∈ wsX6_version := fun _ h => List.mem_cons_of_mem _ (List.mem_append_right _ h)
  obtain ⟨hT9, hO9⟩ := hI
  refine lv_aload_n hx hb dX6_version_0 rfl (lv_at hl 0 rfl) ?_
  refine x_get (v := .ref l2) hx hb hts h_X6 hown hK hT9 rfl 2 (by decide) (hts (.fieldLink RX6 19 "ConfigBeacon" "versions" "Ljava/util/ArrayList;") (by decide +kernel)) (fun _ h => h) rfl dX6_version_1 ?_
  refine xr_call (va_runV (As := []) (rest := []) ⟨hx, hb, hml, hown, hts⟩ (c_Jx4a65c_size_8abf5 l D cA l2 mc d9 (v9 + 1)) (cwV 0 hts gX6_version_Jx4a65c_size_8abf5 rfl rfl rfl (by decide +kernel) ⟨Nat.le_of_ble_eq_true rfl, Nat.le_of_ble_eq_true rfl⟩) (xPV hK hO9 rfl hO9) rfl rfl hl.1 rfl (lv_room (Nat.le_of_ble_eq_true rfl)) dX6_version_4 ⟨Nat.le_of_ble_eq_true rfl, Nat.le_of_ble_eq_true rfl⟩) ?_
  refine lv_iconst (v := 1) hx hb dX6_version_7 (by decide) ?_
  refine xe_isub hx hb (pk_sub (a := v9 + 1) (b := 1) (by omega)) dX6_version_8 ?_
  exact xr_iret hx hb hr hlocks rfl dX6_version_9
