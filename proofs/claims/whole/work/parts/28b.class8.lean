def WOC (l : Launch) (D : va_G) (cA : Nat → ClassId) (lab : Nat → Nat) (nm : Nat → Nat → Nat) (rf : Nat → Nat → Option Nat) (f : Nat → Nat → Int32) (nC nL nV : Nat) (ie9 k9 : Nat) (w : Option Nat) (d : Nat) : Prop := ∀ (b : Nat) (z : ES) (g : Nat → Int64), b < 16 → cnU z.2.1 + d = 17 → (∀ j, j < 16 → tbF z.2.1 j = true → ¬ decE f k9 w nL j = 0) → (∀ j, j < 16 → tbF z.2.2.1 j = true → g j = z.2.2.2 j) → Met l yX6_workOut wsX6_workOut (rmK (5 + 2 * d) 0 0) (xP D cA [.ref (nm 0 0), .int (nI b)] (fun H => CRv D cA lab nm rf f nC nL nV H ∧ IQS D cA lab nm f ie9 k9 w z.1 z.2.1 z.2.2.1 0 (-1) g H)) (xW (xV (some (.int (woR (ev (decE f k9 w nL) d b z)))) (woH (CRv D cA lab nm rf f nC nL nV) (IQS D cA lab nm f ie9 k9 w) (ev (decE f k9 w nL) d b z))) (A9 nm)) 0 0 (A9 nm)
def WPC (l : Launch) (D : va_G) (cA : Nat → ClassId) (lab : Nat → Nat) (nm : Nat → Nat → Nat) (rf : Nat → Nat → Option Nat) (f : Nat → Nat → Int32) (nC nL nV : Nat) (ie9 k9 : Nat) (w : Option Nat) (d : Nat) : Prop := ∀ (eq9 : Nat) (b0 f0 s0 : Int32) (z : ES) (g : Nat → Int64), gdT b0 f0 s0 → lab eq9 = 10 → cnU z.2.1 + d = 17 → (∀ j, j < 16 → tbF z.2.1 j = true → ¬ decE f k9 w nL j = 0) → (∀ j, j < 16 → tbF z.2.2.1 j = true → g j = z.2.2.2 j) → Met l yX6_workOutParts wsX6_workOutParts (rmK (6 + 2 * d) 0 0) (xP D cA [.ref (nm 0 0), .ref eq9] (fun H => (CRv D cA lab nm rf f nC nL nV H ∧ IQS D cA lab nm f ie9 k9 w z.1 z.2.1 z.2.2.1 0 (-1) g H) ∧ xO D eq9 3 [.int b0, .int f0, .int s0] H)) (xW (xV (some (.int (woR (evP (decE f k9 w nL) d f0 s0 z)))) (woH (CRv D cA lab nm rf f nC nL nV) (IQS D cA lab nm f ie9 k9 w) (evP (decE f k9 w nL) d f0 s0 z))) (A9 nm)) 0 0 (A9 nm)
set_option maxHeartbeats 4000000 in
set_option maxRecDepth 100000 in
theorem c_parts (l : Launch) (D : va_G) (cA : Nat → ClassId) (lab : Nat → Nat) (nm : Nat → Nat → Nat) (rf : Nat → Nat → Option Nat) (f : Nat → Nat → Int32) (nC nL nV : Nat) (ie9 k9 : Nat) (w : Option Nat) (hi : CRi f nC nL nV) (A : Nat → Prop) (hl9 : CRl A lab nm rf nC nL) (hk9 : k9 < nC) (hw9 : ∀ v, w = some v → v ≤ 512) (d : Nat) (ih : WOC l D cA lab nm rf f nC nL nV ie9 k9 w d) : WPC l D cA lab nm rf f nC nL nV ie9 k9 w d := by
  intro eq9 b0 f0 s0 z g hgd hle hcn huw hgk
  refine Met.ofW (cc := cX6_workOutParts) (maxL := 2) (ret := (some .boolean)) (by decide) rfl ?_
  intro p e s m args below meth c s₁ B hml hv
  obtain ⟨rfl, hK, hI⟩ := hv
  have hx := B.exec
  have hb := B.bytes
  have hr := B.returns
  have hts := atoms_spec (ws := wsX6_workOutParts) B.pre
  have hown : s.vm.findClass RX6 = some m.cls := findClass_of_methodNamed B.named
  have hlocks := B.notSynchronized
  have hl := lv_entry ([.ref (nm 0 0), .ref eq9]) (n := 2) (Nat.le_of_ble_eq_true rfl)
  rw [lg_entry_eq]
  generalize (lg_sl ([.ref (nm 0 0), .ref eq9]) ++ List.replicate (2 - (lg_sl ([.ref (nm 0 0), .ref eq9])).length) Slot.unset).toArray = ls at hl ⊢
  have hl : lv_has ls 2 [(0, .ref (nm 0 0)), (1, .ref eq9)] := hl
  have h_X0 : ∀ w ∈ wsX00, w ∈ wsX6_workOutParts := fun _ h => List.mem_cons_of_mem _ (List.mem_append_left _ (List.mem_append_left _ (List.mem_append_right _ h)))
  have h_X1 : ∀ w ∈ wsX10, w ∈ wsX6_workOutParts := fun _ h => List.mem_cons_of_mem _ (List.mem_append_right _ h)
  have h_X2 : ∀ w ∈ wsX20, w ∈ wsX6_workOutParts := fun _ h => List.mem_cons_of_mem _ (List.mem_append_left _ (List.mem_append_left _ (List.mem_append_left _ (List.mem_append_left _ (List.mem_append_left _ (List.mem_append_right _ h))))))
  have h_X3 : ∀ w ∈ wsX30, w ∈ wsX6_workOutParts := fun _ h => List.mem_cons_of_mem _ (List.mem_append_left _ (List.mem_append_left _ (List.mem_append_left _ (List.mem_append_left _ (List.mem_append_left _ (List.mem_append_left _ (List.mem_append_right _ h)))))))
  have h_X4 : ∀ w ∈ wsX40, w ∈ wsX6_workOutParts := fun _ h => List.mem_cons_of_mem _ (List.mem_append_left _ (List.mem_append_left _ (List.mem_append_left _ (List.mem_append_right _ h))))
  have h_X5 : ∀ w ∈ wsX50, w ∈ wsX6_workOutParts := fun _ h => List.mem_cons_of_mem _ (List.mem_append_left _ (List.mem_append_right _ h))
  have h_X6 : ∀ w ∈ wsX60, w ∈ wsX6_workOutParts := fun _ h => List.mem_cons_of_mem _ (List.mem_append_left _ (List.mem_append_left _ (List.mem_append_left _ (List.mem_append_left _ (List.mem_append_left _ (List.mem_append_left _ (List.mem_append_left _ (List.mem_append_right _ h))))))))
  have h_Jx4a65c : ∀ w ∈ wsJx4a65c0, w ∈ wsX6_workOutParts := fun _ h => List.mem_cons_of_mem _ (List.mem_append_left _ (List.mem_append_left _ (List.mem_append_left _ (List.mem_append_left _ (List.mem_append_right _ h)))))
  obtain ⟨⟨hV, hQ⟩, hOe⟩ := hI
  have hT := hV.1
  have hdec := hi.2.2.2.2.1.dc nL k9 w (by have := hi.1; omega) hw9
  have l8 := hl9.2.2.2.2.2.1
  have l9 := hl9.2.2.2.2.2.2.1
  have hnA : ¬ A9 nm eq9 := by
    intro q
    rcases q with q | q
    · rw [q, l8] at hle; exact absurd hle (by decide)
    · rw [q, l9] at hle; exact absurd hle (by decide)
  have hS : va_S (A9 nm) s.heap s.heap [] := va_S.rf
  refine lv_aload_n hx hb dX6_workOutParts_0 rfl (lv_at hl 1 rfl) ?_
  refine x_getN (v := .int f0) hx hb hts h_X2 hown hK hOe rfl 1 (by decide) (va_Nw.use rfl (hK.2.2.1 ("ConfigBeacon", 302, "ConfigBeacon$Entry", "first", "I") (by decide))) (fun _ h => h) rfl dX6_workOutParts_1 ?_
  refine lv_iconst (v := (-1)) hx hb dX6_workOutParts_4 (by decide) ?_
  refine lv_icmp_eq (tgt := 19) hx hb dX6_workOutParts_5 (by decide) (fun c_1 => ?_) (fun c_1 => ?_)
  · refine lv_aload_n hx hb dX6_workOutParts_19 rfl (lv_at hl 1 rfl) ?_
    refine x_getN (v := .int s0) hx hb hts h_X2 hown hK hOe rfl 2 (by decide) (va_Nw.use rfl (hK.2.2.1 ("ConfigBeacon", 309, "ConfigBeacon$Entry", "second", "I") (by decide))) (fun _ h => h) rfl dX6_workOutParts_20 ?_
    refine lv_iconst (v := (-1)) hx hb dX6_workOutParts_23 (by decide) ?_
    refine lv_icmp_eq (tgt := 38) hx hb dX6_workOutParts_24 (by decide) (fun c_2 => ?_) (fun c_2 => ?_)
    · refine lv_iconst (v := 1) hx hb dX6_workOutParts_38 (by decide) ?_
      refine lv_goto (tgt := 43) hx hb dX6_workOutParts_39 (by decide) ?_
      have eP : (evP (decE f k9 w nL) d f0 s0 z) = (z, none) := by rw [evP_0 c_1, if_pos c_2]
      exact xw_zret hx hb hr hlocks (b := true) rfl hS ⟨by rw [eP]; rfl, by rw [eP]; exact ⟨hV, _, _, _, _, _, hQ, fun _ => ⟨rfl, rfl, rfl, rfl, hgk⟩, fun x hx => by cases hx⟩⟩ (Nat.le_refl _) (Nat.le_refl _) dX6_workOutParts_43
    · obtain ⟨j2, hj2, ej2⟩ := okS_of (hgd.v.2.resolve_left c_2)
      have xj2 : ix s0 = j2 := by rw [ej2, ix_nI (by omega)]
      refine lv_aload_n hx hb dX6_workOutParts_27 rfl (lv_at hl 0 rfl) ?_
      refine lv_aload_n hx hb dX6_workOutParts_28 rfl (lv_at hl 1 rfl) ?_
      refine x_getN (v := .int s0) hx hb hts h_X2 hown hK hOe rfl 2 (by decide) (va_Nw.use rfl (hK.2.2.1 ("ConfigBeacon", 309, "ConfigBeacon$Entry", "second", "I") (by decide))) (fun _ h => h) rfl dX6_workOutParts_29 ?_
      refine xe_top ej2 ?_
      refine xw_calls (va_runV (As := [.int (nI j2)]) (rest := []) ⟨hx, hb, hml, hown, hts⟩ (ih j2 z g (by omega) hcn huw hgk) (cwV 1 hts gX6_workOutParts_X6_workOut rfl rfl rfl (by decide +kernel) ⟨by show 10 + (5 + 2 * d) + 1 ≤ 10 + (6 + 2 * d); omega, by show 8 + (_ + 11) + (100 + 40 * (5 + 2 * d)) ≤ 100 + 40 * (6 + 2 * d); omega⟩) (xPV hK hT rfl ⟨hV, hQ⟩) rfl rfl hl.1 rfl (lv_room (Nat.le_of_ble_eq_true rfl)) dX6_workOutParts_32 ⟨Nat.le_of_ble_eq_true rfl, Nat.le_of_ble_eq_true rfl⟩) hS (fun _ _ h => h) (fun _ h => h) (fun H locs hJ z9 q9 hS => ?_)
      have hOe := va_at.kept hOe (q9 _ (x_lt hOe) hnA)
      have hJ2 := hJ
      obtain ⟨hV, uw1, kn1, oc1, fa1, g1, hQ, e1, e2⟩ := hJ2
      have hT := hV.1
      have k_3 := (ev_keep (decE f k9 w nL) hdec d j2 z (by omega)).2
      cases hE_4 : (ev (decE f k9 w nL) d j2 z).2 with
      | some x9 =>
        refine xe_top (woR_s hE_4) ?_
        refine lv_if_eq (tgt := 42) hx hb dX6_workOutParts_35 (by decide) (fun _ => ?_) (fun c_5 => absurd c_5 (by decide))
        refine lv_iconst (v := 0) hx hb dX6_workOutParts_42 (by decide) ?_
        have eP : (evP (decE f k9 w nL) d f0 s0 z) = (ev (decE f k9 w nL) d j2 z) := by rw [evP_0 c_1, if_neg c_2, xj2]
        exact xw_zret hx hb hr hlocks (b := false) rfl hS ⟨by rw [eP, woR_s hE_4]; rfl, by rw [eP]; exact hJ⟩ (Nat.le_refl _) (Nat.le_refl _) dX6_workOutParts_43
      | none =>
        obtain ⟨rfl, rfl, rfl, rfl, e5⟩ := e1 hE_4
        obtain ⟨k1, k2⟩ := k_3 hE_4
        refine xe_top (woR_n hE_4) ?_
        refine lv_if_eq (tgt := 42) hx hb dX6_workOutParts_35 (by decide) (fun c_6 => absurd c_6 (by decide)) (fun _ => ?_)
        refine lv_iconst (v := 1) hx hb dX6_workOutParts_38 (by decide) ?_
        refine lv_goto (tgt := 43) hx hb dX6_workOutParts_39 (by decide) ?_
        have eP : (evP (decE f k9 w nL) d f0 s0 z) = (ev (decE f k9 w nL) d j2 z) := by rw [evP_0 c_1, if_neg c_2, xj2]
        exact xw_zret hx hb hr hlocks (b := true) rfl hS ⟨by rw [eP, woR_n hE_4]; rfl, by rw [eP]; exact hJ⟩ (Nat.le_refl _) (Nat.le_refl _) dX6_workOutParts_43
  · obtain ⟨j1, hj1, ej1⟩ := okS_of (hgd.v.1.resolve_left c_1)
    have xj1 : ix f0 = j1 := by rw [ej1, ix_nI (by omega)]
    refine lv_aload_n hx hb dX6_workOutParts_8 rfl (lv_at hl 0 rfl) ?_
    refine lv_aload_n hx hb dX6_workOutParts_9 rfl (lv_at hl 1 rfl) ?_
    refine x_getN (v := .int f0) hx hb hts h_X2 hown hK hOe rfl 1 (by decide) (va_Nw.use rfl (hK.2.2.1 ("ConfigBeacon", 302, "ConfigBeacon$Entry", "first", "I") (by decide))) (fun _ h => h) rfl dX6_workOutParts_10 ?_
    refine xe_top ej1 ?_
    refine xw_calls (va_runV (As := [.int (nI j1)]) (rest := []) ⟨hx, hb, hml, hown, hts⟩ (ih j1 z g (by omega) hcn huw hgk) (cwV 1 hts gX6_workOutParts_X6_workOut rfl rfl rfl (by decide +kernel) ⟨by show 10 + (5 + 2 * d) + 1 ≤ 10 + (6 + 2 * d); omega, by show 8 + (_ + 11) + (100 + 40 * (5 + 2 * d)) ≤ 100 + 40 * (6 + 2 * d); omega⟩) (xPV hK hT rfl ⟨hV, hQ⟩) rfl rfl hl.1 rfl (lv_room (Nat.le_of_ble_eq_true rfl)) dX6_workOutParts_13 ⟨Nat.le_of_ble_eq_true rfl, Nat.le_of_ble_eq_true rfl⟩) hS (fun _ _ h => h) (fun _ h => h) (fun H locs hJ z9 q9 hS => ?_)
    have hOe := va_at.kept hOe (q9 _ (x_lt hOe) hnA)
    have hJ2 := hJ
    obtain ⟨hV, uw1, kn1, oc1, fa1, g1, hQ, e1, e2⟩ := hJ2
    have hT := hV.1
    have k_7 := (ev_keep (decE f k9 w nL) hdec d j1 z (by omega)).2
    cases hE_8 : (ev (decE f k9 w nL) d j1 z).2 with
    | some x9 =>
      refine xe_top (woR_s hE_8) ?_
      refine lv_if_eq (tgt := 42) hx hb dX6_workOutParts_16 (by decide) (fun _ => ?_) (fun c_9 => absurd c_9 (by decide))
      refine lv_iconst (v := 0) hx hb dX6_workOutParts_42 (by decide) ?_
      have eP : (evP (decE f k9 w nL) d f0 s0 z) = ev (decE f k9 w nL) d j1 z := by rw [evP_1s c_1 (by rw [xj1]; exact hE_8), xj1]
      exact xw_zret hx hb hr hlocks (b := false) rfl hS ⟨by rw [eP, woR_s hE_8]; rfl, by rw [eP]; exact hJ⟩ (Nat.le_refl _) (Nat.le_refl _) dX6_workOutParts_43
    | none =>
      obtain ⟨rfl, rfl, rfl, rfl, e5⟩ := e1 hE_8
      obtain ⟨k1, k2⟩ := k_7 hE_8
      refine xe_top (woR_n hE_8) ?_
      refine lv_if_eq (tgt := 42) hx hb dX6_workOutParts_16 (by decide) (fun c_10 => absurd c_10 (by decide)) (fun _ => ?_)
      refine lv_aload_n hx hb dX6_workOutParts_19 rfl (lv_at hl 1 rfl) ?_
      refine x_getN (v := .int s0) hx hb hts h_X2 hown hK hOe rfl 2 (by decide) (va_Nw.use rfl (hK.2.2.1 ("ConfigBeacon", 309, "ConfigBeacon$Entry", "second", "I") (by decide))) (fun _ h => h) rfl dX6_workOutParts_20 ?_
      refine lv_iconst (v := (-1)) hx hb dX6_workOutParts_23 (by decide) ?_
      refine lv_icmp_eq (tgt := 38) hx hb dX6_workOutParts_24 (by decide) (fun c_11 => ?_) (fun c_11 => ?_)
      · refine lv_iconst (v := 1) hx hb dX6_workOutParts_38 (by decide) ?_
        refine lv_goto (tgt := 43) hx hb dX6_workOutParts_39 (by decide) ?_
        have eP : (evP (decE f k9 w nL) d f0 s0 z) = ((ev (decE f k9 w nL) d j1 z).1, none) := by rw [evP_1n c_1 (by rw [xj1]; exact hE_8), xj1, if_pos c_11]
        exact xw_zret hx hb hr hlocks (b := true) rfl hS ⟨by rw [eP]; rfl, by rw [eP]; exact ⟨hV, _, _, _, _, _, hQ, fun _ => ⟨rfl, rfl, rfl, rfl, e5⟩, fun x hx => by cases hx⟩⟩ (Nat.le_refl _) (Nat.le_refl _) dX6_workOutParts_43
      · obtain ⟨j2, hj2, ej2⟩ := okS_of (hgd.v.2.resolve_left c_11)
        have xj2 : ix s0 = j2 := by rw [ej2, ix_nI (by omega)]
        refine lv_aload_n hx hb dX6_workOutParts_27 rfl (lv_at hl 0 rfl) ?_
        refine lv_aload_n hx hb dX6_workOutParts_28 rfl (lv_at hl 1 rfl) ?_
        refine x_getN (v := .int s0) hx hb hts h_X2 hown hK hOe rfl 2 (by decide) (va_Nw.use rfl (hK.2.2.1 ("ConfigBeacon", 309, "ConfigBeacon$Entry", "second", "I") (by decide))) (fun _ h => h) rfl dX6_workOutParts_29 ?_
        refine xe_top ej2 ?_
        refine xw_calls (va_runV (As := [.int (nI j2)]) (rest := []) ⟨hx, hb, hml, hown, hts⟩ (ih j2 ((ev (decE f k9 w nL) d j1 z).1) g1 (by omega) (by rw [k2]; omega) (by rw [k2]; exact huw) e5) (cwV 1 hts gX6_workOutParts_X6_workOut rfl rfl rfl (by decide +kernel) ⟨by show 10 + (5 + 2 * d) + 1 ≤ 10 + (6 + 2 * d); omega, by show 8 + (_ + 11) + (100 + 40 * (5 + 2 * d)) ≤ 100 + 40 * (6 + 2 * d); omega⟩) (xPV hK hT rfl ⟨hV, hQ⟩) rfl rfl hl.1 rfl (lv_room (Nat.le_of_ble_eq_true rfl)) dX6_workOutParts_32 ⟨Nat.le_of_ble_eq_true rfl, Nat.le_of_ble_eq_true rfl⟩) hS (fun _ _ h => h) (fun _ h => h) (fun H locs hJ z9 q9 hS => ?_)
        have hOe := va_at.kept hOe (q9 _ (x_lt hOe) hnA)
        have hJ2 := hJ
        obtain ⟨hV, uw1, kn1, oc1, fa1, g1, hQ, e1, e2⟩ := hJ2
        have hT := hV.1
        have k_12 := (ev_keep (decE f k9 w nL) hdec d j2 ((ev (decE f k9 w nL) d j1 z).1) (by omega)).2
        cases hE_13 : (ev (decE f k9 w nL) d j2 ((ev (decE f k9 w nL) d j1 z).1)).2 with
        | some x9 =>
          refine xe_top (woR_s hE_13) ?_
          refine lv_if_eq (tgt := 42) hx hb dX6_workOutParts_35 (by decide) (fun _ => ?_) (fun c_14 => absurd c_14 (by decide))
          refine lv_iconst (v := 0) hx hb dX6_workOutParts_42 (by decide) ?_
          have eP : (evP (decE f k9 w nL) d f0 s0 z) = (ev (decE f k9 w nL) d j2 ((ev (decE f k9 w nL) d j1 z).1)) := by rw [evP_1n c_1 (by rw [xj1]; exact hE_8), xj1, if_neg c_11, xj2]
          exact xw_zret hx hb hr hlocks (b := false) rfl hS ⟨by rw [eP, woR_s hE_13]; rfl, by rw [eP]; exact hJ⟩ (Nat.le_refl _) (Nat.le_refl _) dX6_workOutParts_43
        | none =>
          obtain ⟨rfl, rfl, rfl, rfl, e5⟩ := e1 hE_13
          obtain ⟨k1, k2⟩ := k_12 hE_13
          refine xe_top (woR_n hE_13) ?_
          refine lv_if_eq (tgt := 42) hx hb dX6_workOutParts_35 (by decide) (fun c_15 => absurd c_15 (by decide)) (fun _ => ?_)
          refine lv_iconst (v := 1) hx hb dX6_workOutParts_38 (by decide) ?_
          refine lv_goto (tgt := 43) hx hb dX6_workOutParts_39 (by decide) ?_
          have eP : (evP (decE f k9 w nL) d f0 s0 z) = (ev (decE f k9 w nL) d j2 ((ev (decE f k9 w nL) d j1 z).1)) := by rw [evP_1n c_1 (by rw [xj1]; exact hE_8), xj1, if_neg c_11, xj2]
          exact xw_zret hx hb hr hlocks (b := true) rfl hS ⟨by rw [eP, woR_n hE_13]; rfl, by rw [eP]; exact hJ⟩ (Nat.le_refl _) (Nat.le_refl _) dX6_workOutParts_43
