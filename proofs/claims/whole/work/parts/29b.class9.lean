set_option maxHeartbeats 4000000 in
set_option maxRecDepth 100000 in
theorem c_X6_partOf (l : Launch) (D : va_G) (cA : Nat → ClassId) (nm : Nat → Nat → Nat) (v0 v1 v2 v4 : Value) (ic : Int32) (en9 : Option Nat) (wr lo uw kn oc fa : Int32) (g : Nat → Int64) (v : Int32) (hv9 : vS v) : Met l yX6_partOf wsX6_partOf (rmK 0 0 0) (xP D cA [.ref (nm 0 0), .int v] (fun H => xO D (nm 0 0) 7 [v0, v1, v2, .ref (nm 9 0), v4] H ∧ xO D (nm 9 0) 4 [.ref (nm 9 1), .int ic, va_rf en9, .int wr, .int lo, .int uw, .int kn, .int oc, .int fa] H ∧ xL (cA 1) (nm 9 1) 16 g H)) (xR (some (.long (partF g v)))) 0 0 (fun _ => False) := by
  refine Met.ofW (cc := cX6_partOf) (maxL := 2) (ret := (some .long)) (by decide) rfl ?_
  intro p e s m args below meth c s₁ B hml hv
  obtain ⟨rfl, hK, hI⟩ := hv
  have hx := B.exec
  have hb := B.bytes
  have hr := B.returns
  have hts := atoms_spec (ws := wsX6_partOf) B.pre
  have hown : s.vm.findClass RX6 = some m.cls := findClass_of_methodNamed B.named
  have hlocks := B.notSynchronized
  have hl := lv_entry ([.ref (nm 0 0), .int v]) (n := 2) (Nat.le_of_ble_eq_true rfl)
  rw [lg_entry_eq]
  generalize (lg_sl ([.ref (nm 0 0), .int v]) ++ List.replicate (2 - (lg_sl ([.ref (nm 0 0), .int v])).length) Slot.unset).toArray = ls at hl ⊢
  have hl : lv_has ls 2 [(0, .ref (nm 0 0)), (1, .int v)] := hl
  have h_X3 : ∀ w ∈ wsX30, w ∈ wsX6_partOf := fun _ h => List.mem_cons_of_mem _ (List.mem_append_right _ h)
  have h_X6 : ∀ w ∈ wsX60, w ∈ wsX6_partOf := fun _ h => List.mem_cons_of_mem _ (List.mem_append_left _ (List.mem_append_right _ h))
  obtain ⟨hT, hIq, hW9⟩ := hI
  refine lv_iload_n hx hb dX6_partOf_0 rfl (lv_at hl 1 rfl) ?_
  refine lv_iconst (v := (-1)) hx hb dX6_partOf_1 (by decide) ?_
  refine lv_icmp_ne (tgt := 9) hx hb dX6_partOf_2 (by decide) (fun c_1 => ?_) (fun c_1 => ?_)
  · obtain ⟨j1, hj1, ej1⟩ := okS_of (hv9.resolve_left c_1)
    refine lv_aload_n hx hb dX6_partOf_9 rfl (lv_at hl 0 rfl) ?_
    refine x_get (v := .ref (nm 9 0)) hx hb hts h_X6 hown hK hT rfl 3 (by decide) (hts (.fieldLink RX6 25 "ConfigBeacon" "inquiry" "LConfigBeacon$Inquiry;") (by decide +kernel)) (fun _ h => h) rfl dX6_partOf_10 ?_
    refine x_getN (v := .ref (nm 9 1)) hx hb hts h_X3 hown hK hIq rfl 0 (by decide) (va_Nw.use rfl (hK.2.2.1 ("ConfigBeacon", 213, "ConfigBeacon$Inquiry", "values", "[J") (by decide))) (fun _ h => h) rfl dX6_partOf_13 ?_
    refine lv_iload_n hx hb dX6_partOf_16 rfl (lv_at hl 1 rfl) ?_
    refine x_lald hx hb hK hW9 j1 ej1 (by omega) (by decide) dX6_partOf_17 ?_
    exact xr_lret hx hb hr hlocks (by rw [partF, if_neg c_1, ej1, ix_nI (by omega)]) dX6_partOf_18
  · refine lv_lconst (v := 0) hx hb dX6_partOf_5 (by decide) ?_
    refine lv_goto (tgt := 18) hx hb dX6_partOf_6 (by decide) ?_
    exact xr_lret hx hb hr hlocks (by rw [partF, if_pos c_1]) dX6_partOf_18
set_option maxHeartbeats 4000000 in
set_option maxRecDepth 100000 in
theorem c_work (l : Launch) (D : va_G) (cA : Nat → ClassId) (lab : Nat → Nat) (nm : Nat → Nat → Nat) (rf : Nat → Nat → Option Nat) (f : Nat → Nat → Int32) (nC nL nV : Nat) (ie9 k9 : Nat) (w : Option Nat) (hi : CRi f nC nL nV) (A : Nat → Prop) (hl9 : CRl A lab nm rf nC nL) (hk9 : k9 < nC) (hw9 : ∀ v, w = some v → v ≤ 512) (d : Nat) (ihp : WPC l D cA lab nm rf f nC nL nV ie9 k9 w d) : WOC l D cA lab nm rf f nC nL nV ie9 k9 w (d + 1) := by
  intro b z g hb9 hcn huw hgk
  refine Met.ofW (cc := cX6_workOut) (maxL := 4) (ret := (some .boolean)) (by decide) rfl ?_
  intro p e s m args below meth c s₁ B hml hv
  obtain ⟨rfl, hK, hI⟩ := hv
  have hx := B.exec
  have hb := B.bytes
  have hr := B.returns
  have hts := atoms_spec (ws := wsX6_workOut) B.pre
  have hown : s.vm.findClass RX6 = some m.cls := findClass_of_methodNamed B.named
  have hlocks := B.notSynchronized
  have hl := lv_entry ([.ref (nm 0 0), .int (nI b)]) (n := 4) (Nat.le_of_ble_eq_true rfl)
  rw [lg_entry_eq]
  generalize (lg_sl ([.ref (nm 0 0), .int (nI b)]) ++ List.replicate (4 - (lg_sl ([.ref (nm 0 0), .int (nI b)])).length) Slot.unset).toArray = ls at hl ⊢
  have hl : lv_has ls 4 [(0, .ref (nm 0 0)), (1, .int (nI b))] := hl
  have h_X0 : ∀ w ∈ wsX00, w ∈ wsX6_workOut := fun _ h => List.mem_cons_of_mem _ (List.mem_append_left _ (List.mem_append_left _ (List.mem_append_right _ h)))
  have h_X1 : ∀ w ∈ wsX10, w ∈ wsX6_workOut := fun _ h => List.mem_cons_of_mem _ (List.mem_append_right _ h)
  have h_X2 : ∀ w ∈ wsX20, w ∈ wsX6_workOut := fun _ h => List.mem_cons_of_mem _ (List.mem_append_left _ (List.mem_append_left _ (List.mem_append_left _ (List.mem_append_left _ (List.mem_append_left _ (List.mem_append_right _ h))))))
  have h_X3 : ∀ w ∈ wsX30, w ∈ wsX6_workOut := fun _ h => List.mem_cons_of_mem _ (List.mem_append_left _ (List.mem_append_left _ (List.mem_append_left _ (List.mem_append_left _ (List.mem_append_left _ (List.mem_append_left _ (List.mem_append_right _ h)))))))
  have h_X4 : ∀ w ∈ wsX40, w ∈ wsX6_workOut := fun _ h => List.mem_cons_of_mem _ (List.mem_append_left _ (List.mem_append_left _ (List.mem_append_left _ (List.mem_append_right _ h))))
  have h_X5 : ∀ w ∈ wsX50, w ∈ wsX6_workOut := fun _ h => List.mem_cons_of_mem _ (List.mem_append_left _ (List.mem_append_right _ h))
  have h_X6 : ∀ w ∈ wsX60, w ∈ wsX6_workOut := fun _ h => List.mem_cons_of_mem _ (List.mem_append_left _ (List.mem_append_left _ (List.mem_append_left _ (List.mem_append_left _ (List.mem_append_left _ (List.mem_append_left _ (List.mem_append_left _ (List.mem_append_right _ h))))))))
  have h_Jx4a65c : ∀ w ∈ wsJx4a65c0, w ∈ wsX6_workOut := fun _ h => List.mem_cons_of_mem _ (List.mem_append_left _ (List.mem_append_left _ (List.mem_append_left _ (List.mem_append_left _ (List.mem_append_right _ h)))))
  obtain ⟨hV, ⟨hIq, hEn9⟩, hW9⟩ := hI
  have hT := hV.1
  have hdec := hi.2.2.2.2.1.dc nL k9 w (by have := hi.1; omega) hw9
  have l8 := hl9.2.2.2.2.2.1
  have l9 := hl9.2.2.2.2.2.2.1
  have hne : ¬ nm 9 1 = nm 9 0 := fun e => by rw [e, l8] at l9; exact absurd l9 (by decide)
  have hS : va_S (A9 nm) s.heap s.heap [] := va_S.rf
  refine lv_aload_n hx hb dX6_workOut_0 rfl (lv_at hl 0 rfl) ?_
  refine x_get (v := .ref (nm 9 0)) hx hb hts h_X6 hown hK hT rfl 3 (by decide) (hts (.fieldLink RX6 25 "ConfigBeacon" "inquiry" "LConfigBeacon$Inquiry;") (by decide +kernel)) (fun _ h => h) rfl dX6_workOut_1 ?_
  refine lv_dup hx hb dX6_workOut_4 rfl ?_
  refine x_getN (v := .int z.1) hx hb hts h_X3 hown hK hIq rfl 4 (by decide) (va_Nw.use rfl (hK.2.2.1 ("ConfigBeacon", 230, "ConfigBeacon$Inquiry", "looked", "I") (by decide))) (fun _ h => h) rfl dX6_workOut_5 ?_
  refine lv_iload_n hx hb dX6_workOut_8 rfl (lv_at hl 1 rfl) ?_
  refine xr_call (va_runS (As := [.int (nI b)]) (rest := [.int z.1, .ref (nm 9 0)]) ⟨hx, hb, hml, hown, hts⟩ (c_X6_bit l D cA b) (va_cwS 1 hts gX6_workOut_X6_bit rfl rfl rfl (by decide +kernel) ⟨by show 10 + (0) + 1 ≤ 10 + (5 + 2 * (d + 1)); omega, by show 8 + (_ + 11) + (100 + 40 * (0)) ≤ 100 + 40 * (5 + 2 * (d + 1)); omega⟩) (xPS hK trivial) rfl rfl hl.1 rfl (lv_room (Nat.le_of_ble_eq_true rfl)) dX6_workOut_9 ⟨Nat.le_of_ble_eq_true rfl, Nat.le_of_ble_eq_true rfl⟩) ?_
  refine lv_ior hx hb dX6_workOut_12 ?_
  refine x_putN hx hb hts h_X3 tyX3 tyX3_ok nmX3 hown hK hIq hS (Or.inl rfl) rfl 4 (by decide) (va_Nw.use rfl (hK.2.2.1 ("ConfigBeacon", 230, "ConfigBeacon$Inquiry", "looked", "I") (by decide))) (fun _ h => h) rfl (tyX3_ok 4 (by decide)) rfl rfl (Nat.le_of_ble_eq_true rfl) dX6_workOut_13 (fun H locs hIq z9 q9 hS => ?_)
  have hIq : xO D (nm 9 0) 4 [.ref (nm 9 1), .int (nI k9), .ref ie9, .int (wrI w), .int (z.1 ||| (bitI b)), .int z.2.1, .int z.2.2.1, .int 0, .int (-1)] H := hIq
  have hV := hV.keptI hl9 (fun q _ h8 _ => q9 q (fun e => h8 (by rw [e]; exact l8)))
  have hT := hV.1
  have hEn9 := hEn9.kept (fun q _ e10 => q9 q (fun e => by rw [e, l8] at e10; exact absurd e10 (by decide)))
  have hW9 := x_kept hW9 (q9 _ hne)
  refine lv_aload_n hx hb dX6_workOut_16 rfl (lv_at hl 0 rfl) ?_
  refine x_get (v := .ref (nm 9 0)) hx hb hts h_X6 hown hK hT rfl 3 (by decide) (hts (.fieldLink RX6 25 "ConfigBeacon" "inquiry" "LConfigBeacon$Inquiry;") (by decide +kernel)) (fun _ h => h) rfl dX6_workOut_17 ?_
  refine lv_iload_n hx hb dX6_workOut_20 rfl (lv_at hl 1 rfl) ?_
  refine xr_call (va_runV (As := [.int (nI b)]) (rest := []) ⟨hx, hb, hml, hown, hts⟩ (c_X3_isKnown l D cA (nm 9 0) (nm 9 1) (nI k9) (some ie9) (wrI w) (z.1 ||| (bitI b)) z.2.1 z.2.2.1 0 (-1) b hb9) (cwV 1 hts gX6_workOut_X3_isKnown rfl rfl rfl (by decide +kernel) ⟨by show 10 + (1) + 1 ≤ 10 + (5 + 2 * (d + 1)); omega, by show 8 + (_ + 11) + (100 + 40 * (1)) ≤ 100 + 40 * (5 + 2 * (d + 1)); omega⟩) (xPV hK hIq rfl hIq) rfl rfl hl.1 rfl (lv_room (Nat.le_of_ble_eq_true rfl)) dX6_workOut_21 ⟨Nat.le_of_ble_eq_true rfl, Nat.le_of_ble_eq_true rfl⟩) ?_
  refine xb_eq (tgt := 29) hx hb dX6_workOut_24 (by decide) (fun c_1 => ?_) (fun c_1 => ?_)
  · refine lv_aload_n hx hb dX6_workOut_29 rfl (lv_at hl 0 rfl) ?_
    refine x_get (v := .ref (nm 9 0)) hx hb hts h_X6 hown hK hT rfl 3 (by decide) (hts (.fieldLink RX6 25 "ConfigBeacon" "inquiry" "LConfigBeacon$Inquiry;") (by decide +kernel)) (fun _ h => h) rfl dX6_workOut_30 ?_
    refine lv_iload_n hx hb dX6_workOut_33 rfl (lv_at hl 1 rfl) ?_
    refine xr_call (va_runV (As := [.int (nI b)]) (rest := []) ⟨hx, hb, hml, hown, hts⟩ (c_X3_isUnderWay l D cA (nm 9 0) (nm 9 1) (nI k9) (some ie9) (wrI w) (z.1 ||| (bitI b)) z.2.1 z.2.2.1 0 (-1) b hb9) (cwV 1 hts gX6_workOut_X3_isUnderWay rfl rfl rfl (by decide +kernel) ⟨by show 10 + (1) + 1 ≤ 10 + (5 + 2 * (d + 1)); omega, by show 8 + (_ + 11) + (100 + 40 * (1)) ≤ 100 + 40 * (5 + 2 * (d + 1)); omega⟩) (xPV hK hIq rfl hIq) rfl rfl hl.1 rfl (lv_room (Nat.le_of_ble_eq_true rfl)) dX6_workOut_34 ⟨Nat.le_of_ble_eq_true rfl, Nat.le_of_ble_eq_true rfl⟩) ?_
    refine xb_eq (tgt := 50) hx hb dX6_workOut_37 (by decide) (fun c_2 => ?_) (fun c_2 => ?_)
    · refine lv_aload_n hx hb dX6_workOut_50 rfl (lv_at hl 0 rfl) ?_
      refine lv_iload_n hx hb dX6_workOut_51 rfl (lv_at hl 1 rfl) ?_
      refine xr_call (va_runV (As := [.int (nI b)]) (rest := []) ⟨hx, hb, hml, hown, hts⟩ (c_X6_decidingLayer l D cA lab nm rf f nC nL nV hi ie9 k9 w (z.1 ||| (bitI b)) z.2.1 z.2.2.1 0 (-1) hk9 A hl9 b hb9) (cwV 1 hts gX6_workOut_X6_decidingLayer rfl rfl rfl (by decide +kernel) ⟨by show 10 + (4) + 1 ≤ 10 + (5 + 2 * (d + 1)); omega, by show 8 + (_ + 11) + (100 + 40 * (4)) ≤ 100 + 40 * (5 + 2 * (d + 1)); omega⟩) (xPV hK hT rfl ⟨hV, hIq, hEn9⟩) rfl rfl hl.1 rfl (lv_room (Nat.le_of_ble_eq_true rfl)) dX6_workOut_52 ⟨Nat.le_of_ble_eq_true rfl, Nat.le_of_ble_eq_true rfl⟩) ?_
      refine lv_istore_n (lv' := [(2, .int (loI (decO f k9 b w nL))), (0, .ref (nm 0 0)), (1, .int (nI b))]) hx hb dX6_workOut_55 rfl hl (by decide) rfl (fun ls hl => ?_)
      refine lv_iload_n hx hb dX6_workOut_56 rfl (lv_at hl 0 rfl) ?_
      refine lv_iconst (v := (-1)) hx hb dX6_workOut_57 (by decide) ?_
      refine lv_icmp_ne (tgt := 65) hx hb dX6_workOut_58 (by decide) (fun c_3 => ?_) (fun c_3 => ?_)
      · obtain ⟨j9, hj9⟩ := loI_some c_3
        have hj9l := (decO_lt hj9).1
        refine lv_aload_n hx hb dX6_workOut_65 rfl (lv_at hl 1 rfl) ?_
        refine lv_iload_n hx hb dX6_workOut_66 rfl (lv_at hl 0 rfl) ?_
        refine xe_top (show (loI (decO f k9 b w nL)) = nI j9 from by rw [hj9]; rfl) ?_
        refine lv_iload_n hx hb dX6_workOut_67 rfl (lv_at hl 2 rfl) ?_
        refine xr_callq (va_runV (As := [.int (nI j9), .int (nI b)]) (rest := []) ⟨hx, hb, hml, hown, hts⟩ (c_X6_shownEntry l D cA lab nm rf f nC nL nV hi ie9 k9 w (z.1 ||| (bitI b)) z.2.1 z.2.2.1 0 (-1) hk9 A hl9 j9 b (by omega) (by omega)) (cwV 2 hts gX6_workOut_X6_shownEntry rfl rfl rfl (by decide +kernel) ⟨by show 10 + (3) + 1 ≤ 10 + (5 + 2 * (d + 1)); omega, by show 8 + (_ + 11) + (100 + 40 * (3)) ≤ 100 + 40 * (5 + 2 * (d + 1)); omega⟩) (xPV hK hT rfl ⟨hV, hIq, hEn9⟩) rfl rfl hl.1 rfl (lv_room (Nat.le_of_ble_eq_true rfl)) dX6_workOut_68 ⟨Nat.le_of_ble_eq_true rfl, Nat.le_of_ble_eq_true rfl⟩) (fun ov_4 hov_4 => ?_)
        cases ov_4 with
        | none =>
          have q0 : shwF f k9 (16 * j9 + b) w = 0 := hov_4.1
          have q1 := (decO_lt hj9).2
          rw [q0] at q1
          exact absurd q1 (by decide)
        | some eq9 =>
          obtain ⟨⟨b0, f0, s0, he0, hgd, hOe⟩, hle⟩ := hov_4
          have hle := hle eq9 rfl
          have he : decE f k9 w nL b = enc b0 f0 s0 := (decE_s hj9).trans he0
          have hd1 : ¬ decE f k9 w nL b = 0 := by rw [he]; exact enc_ne hgd
          have hnA : ¬ A9 nm eq9 := by
            intro q
            rcases q with q | q
            · rw [q, l8] at hle; exact absurd hle (by decide)
            · rw [q, l9] at hle; exact absurd hle (by decide)
          refine lv_astore_n (lv' := [(3, .ref eq9), (2, .int (loI (decO f k9 b w nL))), (0, .ref (nm 0 0)), (1, .int (nI b))]) hx hb dX6_workOut_71 rfl hl (by decide) rfl (fun ls hl => ?_)
          refine lv_aload_n hx hb dX6_workOut_72 rfl (lv_at hl 0 rfl) ?_
          refine lv_ifnonnull (tgt := 86) hx hb dX6_workOut_73 (by decide) ?_
          refine lv_aload_n hx hb dX6_workOut_86 rfl (lv_at hl 2 rfl) ?_
          refine x_get (v := .ref (nm 9 0)) hx hb hts h_X6 hown hK hT rfl 3 (by decide) (hts (.fieldLink RX6 25 "ConfigBeacon" "inquiry" "LConfigBeacon$Inquiry;") (by decide +kernel)) (fun _ h => h) rfl dX6_workOut_87 ?_
          refine lv_dup hx hb dX6_workOut_90 rfl ?_
          refine x_getN (v := .int z.2.1) hx hb hts h_X3 hown hK hIq rfl 5 (by decide) (va_Nw.use rfl (hK.2.2.1 ("ConfigBeacon", 292, "ConfigBeacon$Inquiry", "underWay", "I") (by decide))) (fun _ h => h) rfl dX6_workOut_91 ?_
          refine lv_iload_n hx hb dX6_workOut_94 rfl (lv_at hl 3 rfl) ?_
          refine xr_call (va_runS (As := [.int (nI b)]) (rest := [.int z.2.1, .ref (nm 9 0)]) ⟨hx, hb, hml, hown, hts⟩ (c_X6_bit l D cA b) (va_cwS 1 hts gX6_workOut_X6_bit rfl rfl rfl (by decide +kernel) ⟨by show 10 + (0) + 1 ≤ 10 + (5 + 2 * (d + 1)); omega, by show 8 + (_ + 11) + (100 + 40 * (0)) ≤ 100 + 40 * (5 + 2 * (d + 1)); omega⟩) (xPS hK trivial) rfl rfl hl.1 rfl (lv_room (Nat.le_of_ble_eq_true rfl)) dX6_workOut_95 ⟨Nat.le_of_ble_eq_true rfl, Nat.le_of_ble_eq_true rfl⟩) ?_
          refine lv_ior hx hb dX6_workOut_98 ?_
          refine x_putN hx hb hts h_X3 tyX3 tyX3_ok nmX3 hown hK hIq hS (Or.inl rfl) rfl 5 (by decide) (va_Nw.use rfl (hK.2.2.1 ("ConfigBeacon", 292, "ConfigBeacon$Inquiry", "underWay", "I") (by decide))) (fun _ h => h) rfl (tyX3_ok 5 (by decide)) rfl rfl (Nat.le_of_ble_eq_true rfl) dX6_workOut_99 (fun H locs hIq z9 q9 hS => ?_)
          have hIq : xO D (nm 9 0) 4 [.ref (nm 9 1), .int (nI k9), .ref ie9, .int (wrI w), .int (z.1 ||| (bitI b)), .int (z.2.1 ||| (bitI b)), .int z.2.2.1, .int 0, .int (-1)] H := hIq
          have hV := hV.keptI hl9 (fun q _ h8 _ => q9 q (fun e => h8 (by rw [e]; exact l8)))
          have hT := hV.1
          have hEn9 := hEn9.kept (fun q _ e10 => q9 q (fun e => by rw [e, l8] at e10; exact absurd e10 (by decide)))
          have hW9 := x_kept hW9 (q9 _ hne)
          have hOe := va_at.kept hOe (q9 _ (fun e => hnA (Or.inl e)))
          refine lv_aload_n hx hb dX6_workOut_102 rfl (lv_at hl 2 rfl) ?_
          refine lv_aload_n hx hb dX6_workOut_103 rfl (lv_at hl 0 rfl) ?_
          have hcn2 : cnU (z.2.1 ||| bitI b) + d = 17 := by rw [cnU_add hb9 c_2]; omega
          have huw2 : ∀ j, j < 16 → tbF (z.2.1 ||| bitI b) j = true → ¬ decE f k9 w nL j = 0 := by
            intro j hj q
            rw [tb_or _ hb9 hj] at q
            by_cases e : j = b
            · rw [e]; exact hd1
            · exact huw j hj (by simpa [e] using q)
          refine xw_calls (va_runV (As := [.ref eq9]) (rest := []) ⟨hx, hb, hml, hown, hts⟩ (ihp eq9 b0 f0 s0 (z.1 ||| bitI b, z.2.1 ||| bitI b, z.2.2) g hgd hle hcn2 huw2 hgk) (cwV 1 hts gX6_workOut_X6_workOutParts rfl rfl rfl (by decide +kernel) ⟨by show 10 + (6 + 2 * d) + 1 ≤ 10 + (5 + 2 * (d + 1)); omega, by show 8 + (_ + 11) + (100 + 40 * (6 + 2 * d)) ≤ 100 + 40 * (5 + 2 * (d + 1)); omega⟩) (xPV hK hT rfl ⟨⟨hV, ⟨hIq, hEn9⟩, hW9⟩, hOe⟩) rfl rfl hl.1 rfl (lv_room (Nat.le_of_ble_eq_true rfl)) dX6_workOut_104 ⟨Nat.le_of_ble_eq_true rfl, Nat.le_of_ble_eq_true rfl⟩) hS (fun _ _ h => h) (fun _ h => h) (fun H locs hJ z9 q9 hS => ?_)
          have hOe := va_at.kept hOe (q9 _ (x_lt hOe) hnA)
          have hJ2 := hJ
          obtain ⟨hV, uw1, kn1, oc1, fa1, g1, ⟨⟨hIq, hEn9⟩, hW9⟩, e1, e2⟩ := hJ2
          have hT := hV.1
          have eF : dF (decE f k9 w nL b) = f0 := by rw [he]; exact (enc_dec hgd).2.1
          have eS : dS (decE f k9 w nL b) = s0 := by rw [he]; exact (enc_dec hgd).2.2.1
          have eB : dB (decE f k9 w nL b) = b0 := by rw [he]; exact (enc_dec hgd).1
          have eE0 := ev_p (dec := decE f k9 w nL) (d := d) (b := b) (z := z) (by rw [c_1]; decide) hd1 (by rw [c_2]; decide)
          rw [eF, eS] at eE0
          cases hE : (evP (decE f k9 w nL) d f0 s0 (z.1 ||| bitI b, z.2.1 ||| bitI b, z.2.2)).2 with
          | some x9 =>
            rw [hE] at eE0
            refine xe_top (woR_s hE) ?_
            refine lv_if_ne (tgt := 112) hx hb dX6_workOut_107 (by decide) (fun c_5 => absurd c_5 (by decide)) (fun _ => ?_)
            refine lv_iconst (v := 0) hx hb dX6_workOut_110 (by decide) ?_
            have eE : (ev (decE f k9 w nL) (d + 1) b z) = ((evP (decE f k9 w nL) d f0 s0 (z.1 ||| bitI b, z.2.1 ||| bitI b, z.2.2)).1, some x9) := eE0
            exact xw_zret hx hb hr hlocks (b := false) rfl hS ⟨by rw [eE]; rfl, by rw [eE]; exact ⟨hV, _, _, _, _, _, ⟨⟨hIq, hEn9⟩, hW9⟩, fun h => (by cases h), fun x hx => (by cases hx; exact e2 x9 hE)⟩⟩ (Nat.le_refl _) (Nat.le_refl _) dX6_workOut_111
          | none =>
            rw [hE] at eE0
            obtain ⟨rfl, rfl, rfl, rfl, e5⟩ := e1 hE
            obtain ⟨n1, n2, n3⟩ := evP_known hdec hgd.v.1 hgd.v.2 hE
            refine xe_top (woR_n hE) ?_
            refine lv_if_ne (tgt := 112) hx hb dX6_workOut_107 (by decide) (fun _ => ?_) (fun c_6 => absurd c_6 (by decide))
            refine lv_aload_n hx hb dX6_workOut_112 rfl (lv_at hl 2 rfl) ?_
            refine x_get (v := .ref (nm 9 0)) hx hb hts h_X6 hown hK hT rfl 3 (by decide) (hts (.fieldLink RX6 25 "ConfigBeacon" "inquiry" "LConfigBeacon$Inquiry;") (by decide +kernel)) (fun _ h => h) rfl dX6_workOut_113 ?_
            refine lv_iload_n hx hb dX6_workOut_116 rfl (lv_at hl 3 rfl) ?_
            refine lv_aload_n hx hb dX6_workOut_117 rfl (lv_at hl 0 rfl) ?_
            refine x_getN (v := .int b0) hx hb hts h_X2 hown hK hOe rfl 0 (by decide) (va_Nw.use rfl (hK.2.2.1 ("ConfigBeacon", 299, "ConfigBeacon$Entry", "base", "I") (by decide))) (fun _ h => h) rfl dX6_workOut_118 ?_
            refine lv_i2l hx hb dX6_workOut_121 rfl ?_
            refine lv_aload_n hx hb dX6_workOut_122 rfl (lv_at hl 2 rfl) ?_
            refine lv_aload_n hx hb dX6_workOut_123 rfl (lv_at hl 0 rfl) ?_
            refine x_getN (v := .int f0) hx hb hts h_X2 hown hK hOe rfl 1 (by decide) (va_Nw.use rfl (hK.2.2.1 ("ConfigBeacon", 302, "ConfigBeacon$Entry", "first", "I") (by decide))) (fun _ h => h) rfl dX6_workOut_124 ?_
            refine xr_call (va_runV (As := [.int f0]) (rest := [.long ((b0).toInt64), .int (nI b), .ref (nm 9 0)]) ⟨hx, hb, hml, hown, hts⟩ (c_X6_partOf l D cA nm _ _ _ _ (nI k9) (some ie9) (wrI w) ((evP (decE f k9 w nL) d f0 s0 (z.1 ||| bitI b, z.2.1 ||| bitI b, z.2.2)).1.1) ((evP (decE f k9 w nL) d f0 s0 (z.1 ||| bitI b, z.2.1 ||| bitI b, z.2.2)).1.2.1) ((evP (decE f k9 w nL) d f0 s0 (z.1 ||| bitI b, z.2.1 ||| bitI b, z.2.2)).1.2.2.1) 0 (-1) g1 f0 hgd.v.1) (cwV 1 hts gX6_workOut_X6_partOf rfl rfl rfl (by decide +kernel) ⟨by show 10 + (0) + 1 ≤ 10 + (5 + 2 * (d + 1)); omega, by show 8 + (_ + 11) + (100 + 40 * (0)) ≤ 100 + 40 * (5 + 2 * (d + 1)); omega⟩) (xPV hK hT rfl ⟨hT, hIq, hW9⟩) rfl rfl hl.1 rfl (lv_room (Nat.le_of_ble_eq_true rfl)) dX6_workOut_127 ⟨Nat.le_of_ble_eq_true rfl, Nat.le_of_ble_eq_true rfl⟩) ?_
            refine lv_ladd hx hb dX6_workOut_130 ?_
            refine lv_aload_n hx hb dX6_workOut_131 rfl (lv_at hl 2 rfl) ?_
            refine lv_aload_n hx hb dX6_workOut_132 rfl (lv_at hl 0 rfl) ?_
            refine x_getN (v := .int s0) hx hb hts h_X2 hown hK hOe rfl 2 (by decide) (va_Nw.use rfl (hK.2.2.1 ("ConfigBeacon", 309, "ConfigBeacon$Entry", "second", "I") (by decide))) (fun _ h => h) rfl dX6_workOut_133 ?_
            refine xr_call (va_runV (As := [.int s0]) (rest := [.long ((b0).toInt64 + (partF g1 f0)), .int (nI b), .ref (nm 9 0)]) ⟨hx, hb, hml, hown, hts⟩ (c_X6_partOf l D cA nm _ _ _ _ (nI k9) (some ie9) (wrI w) ((evP (decE f k9 w nL) d f0 s0 (z.1 ||| bitI b, z.2.1 ||| bitI b, z.2.2)).1.1) ((evP (decE f k9 w nL) d f0 s0 (z.1 ||| bitI b, z.2.1 ||| bitI b, z.2.2)).1.2.1) ((evP (decE f k9 w nL) d f0 s0 (z.1 ||| bitI b, z.2.1 ||| bitI b, z.2.2)).1.2.2.1) 0 (-1) g1 s0 hgd.v.2) (cwV 1 hts gX6_workOut_X6_partOf rfl rfl rfl (by decide +kernel) ⟨by show 10 + (0) + 1 ≤ 10 + (5 + 2 * (d + 1)); omega, by show 8 + (_ + 11) + (100 + 40 * (0)) ≤ 100 + 40 * (5 + 2 * (d + 1)); omega⟩) (xPV hK hT rfl ⟨hT, hIq, hW9⟩) rfl rfl hl.1 rfl (lv_room (Nat.le_of_ble_eq_true rfl)) dX6_workOut_136 ⟨Nat.le_of_ble_eq_true rfl, Nat.le_of_ble_eq_true rfl⟩) ?_
            refine lv_ladd hx hb dX6_workOut_139 ?_
            refine xw_calln (va_runV (As := [.int (nI b), .long (((b0).toInt64 + (partF g1 f0)) + (partF g1 s0))]) (rest := []) ⟨hx, hb, hml, hown, hts⟩ (c_X3_finish l D cA (nm 9 0) (nm 9 1) (nI k9) (some ie9) (wrI w) ((evP (decE f k9 w nL) d f0 s0 (z.1 ||| bitI b, z.2.1 ||| bitI b, z.2.2)).1.1) ((evP (decE f k9 w nL) d f0 s0 (z.1 ||| bitI b, z.2.1 ||| bitI b, z.2.2)).1.2.1) ((evP (decE f k9 w nL) d f0 s0 (z.1 ||| bitI b, z.2.1 ||| bitI b, z.2.2)).1.2.2.1) 0 (-1) b hb9 (((b0).toInt64 + (partF g1 f0)) + (partF g1 s0)) g1 (Ne.symm hne)) (cwV 2 hts gX6_workOut_X3_finish rfl rfl rfl (by decide +kernel) ⟨by show 10 + (1) + 1 ≤ 10 + (5 + 2 * (d + 1)); omega, by show 8 + (_ + 11) + (100 + 40 * (1)) ≤ 100 + 40 * (5 + 2 * (d + 1)); omega⟩) (xPV hK hIq rfl ⟨hIq, hW9⟩) rfl rfl hl.1 rfl (lv_room (Nat.le_of_ble_eq_true rfl)) dX6_workOut_140 ⟨Nat.le_of_ble_eq_true rfl, Nat.le_of_ble_eq_true rfl⟩) hS (fun _ _ h => h) (fun _ h => h) (fun H locs hP9 z9 q9 hS => ?_)
            obtain ⟨hIq, hW9⟩ := hP9
            have hV := hV.keptI hl9 (fun q hz h8 h9 => q9 q hz (fun z => by rcases z with z | z <;> (first | exact h8 (by rw [z]; exact l8) | exact h9 (by rw [z]; exact l9))))
            have hT := hV.1
            have hEn9 := hEn9.kept (fun q hz e10 => q9 q hz (fun z => by rcases z with z | z <;> rw [z] at e10 <;> (first | (rw [l8] at e10; exact absurd e10 (by decide)) | (rw [l9] at e10; exact absurd e10 (by decide)))))
            refine lv_iconst (v := 1) hx hb dX6_workOut_143 (by decide) ?_
            have eE : (ev (decE f k9 w nL) (d + 1) b z) = (finE (evP (decE f k9 w nL) d f0 s0 (z.1 ||| bitI b, z.2.1 ||| bitI b, z.2.2)).1 b (decE f k9 w nL b), none) := eE0
            have p1 := partF_eq hgd.v.1 n1 e5
            have p2 := partF_eq hgd.v.2 n2 e5
            have hval : ∀ j, j < 16 → tbF ((evP (decE f k9 w nL) d f0 s0 (z.1 ||| bitI b, z.2.1 ||| bitI b, z.2.2)).1.2.2.1 ||| bitI b) j = true → vp_updL g1 b (((b0).toInt64 + (partF g1 f0)) + (partF g1 s0)) j = updL (evP (decE f k9 w nL) d f0 s0 (z.1 ||| bitI b, z.2.1 ||| bitI b, z.2.2)).1.2.2.2 b ((dB (decE f k9 w nL b)).toInt64 + partF (evP (decE f k9 w nL) d f0 s0 (z.1 ||| bitI b, z.2.1 ||| bitI b, z.2.2)).1.2.2.2 (dF (decE f k9 w nL b)) + partF (evP (decE f k9 w nL) d f0 s0 (z.1 ||| bitI b, z.2.1 ||| bitI b, z.2.2)).1.2.2.2 (dS (decE f k9 w nL b))) j := by
              intro j hj q
              rw [tb_or _ hb9 hj] at q
              by_cases e : j = b
              · rw [e, updL_s, eB, eF, eS, ← p1, ← p2]; simp [vp_updL]
              · rw [updL_n e, ← e5 j hj (by simpa [e] using q)]; simp [vp_updL, e]
            exact xw_zret hx hb hr hlocks (b := true) rfl hS ⟨by rw [eE]; rfl, by rw [eE]; exact ⟨hV, _, _, _, _, _, ⟨⟨hIq, hEn9⟩, hW9⟩, fun _ => ⟨rfl, rfl, rfl, rfl, hval⟩, fun x hx => by cases hx⟩⟩ (Nat.le_refl _) (Nat.le_refl _) dX6_workOut_144
      · have e_c_3 : (decO f k9 b w nL) = none := loI_none (fun j q => by have := (decO_lt q).1; have := hi.2.1; omega) c_3
        have hd0 : decE f k9 w nL b = 0 := decE_0.mpr e_c_3
        refine lv_null hx hb dX6_workOut_61 ?_
        refine lv_goto (tgt := 71) hx hb dX6_workOut_62 (by decide) ?_
        refine lv_astore_nN (lv' := [(3, .null), (2, .int (loI (decO f k9 b w nL))), (0, .ref (nm 0 0)), (1, .int (nI b))]) hx hb dX6_workOut_71 rfl hl (by decide) rfl (fun ls hl => ?_)
        refine lv_aload_nN hx hb dX6_workOut_72 rfl (lv_at hl 0 rfl) ?_
        refine lv_ifnonnullN hx hb dX6_workOut_73 ?_
        refine lv_aload_n hx hb dX6_workOut_76 rfl (lv_at hl 2 rfl) ?_
        refine x_get (v := .ref (nm 9 0)) hx hb hts h_X6 hown hK hT rfl 3 (by decide) (hts (.fieldLink RX6 25 "ConfigBeacon" "inquiry" "LConfigBeacon$Inquiry;") (by decide +kernel)) (fun _ h => h) rfl dX6_workOut_77 ?_
        refine lv_iconst (v := 1) hx hb dX6_workOut_80 (by decide) ?_
        refine lv_iload_n hx hb dX6_workOut_81 rfl (lv_at hl 3 rfl) ?_
        refine xw_calls (va_runV (As := [.int 1, .int (nI b)]) (rest := []) ⟨hx, hb, hml, hown, hts⟩ (c_X3_fail l D cA (nm 9 0) (nm 9 1) (nI k9) (some ie9) (wrI w) (z.1 ||| (bitI b)) z.2.1 z.2.2.1 0 (-1) 1 (nI b)) (cwV 2 hts gX6_workOut_X3_fail rfl rfl rfl (by decide +kernel) ⟨by show 10 + (0) + 1 ≤ 10 + (5 + 2 * (d + 1)); omega, by show 8 + (_ + 11) + (100 + 40 * (0)) ≤ 100 + 40 * (5 + 2 * (d + 1)); omega⟩) (xPV hK hIq rfl hIq) rfl rfl hl.1 rfl (lv_room (Nat.le_of_ble_eq_true rfl)) dX6_workOut_82 ⟨Nat.le_of_ble_eq_true rfl, Nat.le_of_ble_eq_true rfl⟩) hS (fun _ _ h => Or.inl h) (fun _ h => Or.inl h) (fun H locs hIq z9 q9 hS => ?_)
        have hV := hV.keptI hl9 (fun q hz h8 h9 => q9 q hz (fun e => h8 (by rw [e]; exact l8)))
        have hT := hV.1
        have hEn9 := hEn9.kept (fun q hz e10 => q9 q hz (fun e => by rw [e, l8] at e10; exact absurd e10 (by decide)))
        have hW9 := x_kept hW9 (q9 _ (q_lt hW9) hne)
        have eE : (ev (decE f k9 w nL) (d + 1) b z) = ((z.1 ||| bitI b, z.2), some (1, nI b)) := by rw [ev, if_neg (by rw [c_1]; decide), if_pos hd0]
        exact xw_zret hx hb hr hlocks (b := false) rfl hS ⟨by rw [eE]; rfl, by rw [eE]; exact ⟨hV, _, _, _, _, _, ⟨⟨hIq, hEn9⟩, hW9⟩, fun h => (by cases h), fun x hx => (by cases hx; exact ⟨rfl, rfl⟩)⟩⟩ (Nat.le_refl _) (Nat.le_refl _) dX6_workOut_85
    · refine lv_aload_n hx hb dX6_workOut_40 rfl (lv_at hl 0 rfl) ?_
      refine x_get (v := .ref (nm 9 0)) hx hb hts h_X6 hown hK hT rfl 3 (by decide) (hts (.fieldLink RX6 25 "ConfigBeacon" "inquiry" "LConfigBeacon$Inquiry;") (by decide +kernel)) (fun _ h => h) rfl dX6_workOut_41 ?_
      refine lv_iconst (v := 2) hx hb dX6_workOut_44 (by decide) ?_
      refine lv_iload_n hx hb dX6_workOut_45 rfl (lv_at hl 1 rfl) ?_
      refine xw_calls (va_runV (As := [.int 2, .int (nI b)]) (rest := []) ⟨hx, hb, hml, hown, hts⟩ (c_X3_fail l D cA (nm 9 0) (nm 9 1) (nI k9) (some ie9) (wrI w) (z.1 ||| (bitI b)) z.2.1 z.2.2.1 0 (-1) 2 (nI b)) (cwV 2 hts gX6_workOut_X3_fail rfl rfl rfl (by decide +kernel) ⟨by show 10 + (0) + 1 ≤ 10 + (5 + 2 * (d + 1)); omega, by show 8 + (_ + 11) + (100 + 40 * (0)) ≤ 100 + 40 * (5 + 2 * (d + 1)); omega⟩) (xPV hK hIq rfl hIq) rfl rfl hl.1 rfl (lv_room (Nat.le_of_ble_eq_true rfl)) dX6_workOut_46 ⟨Nat.le_of_ble_eq_true rfl, Nat.le_of_ble_eq_true rfl⟩) hS (fun _ _ h => Or.inl h) (fun _ h => Or.inl h) (fun H locs hIq z9 q9 hS => ?_)
      have hV := hV.keptI hl9 (fun q hz h8 h9 => q9 q hz (fun e => h8 (by rw [e]; exact l8)))
      have hT := hV.1
      have hEn9 := hEn9.kept (fun q hz e10 => q9 q hz (fun e => by rw [e, l8] at e10; exact absurd e10 (by decide)))
      have hW9 := x_kept hW9 (q9 _ (q_lt hW9) hne)
      have eE : (ev (decE f k9 w nL) (d + 1) b z) = ((z.1 ||| bitI b, z.2), some (2, nI b)) := by rw [ev, if_neg (by rw [c_1]; decide), if_neg (huw b hb9 c_2), if_pos c_2]
      exact xw_zret hx hb hr hlocks (b := false) rfl hS ⟨by rw [eE]; rfl, by rw [eE]; exact ⟨hV, _, _, _, _, _, ⟨⟨hIq, hEn9⟩, hW9⟩, fun h => (by cases h), fun x hx => (by cases hx; exact ⟨rfl, rfl⟩)⟩⟩ (Nat.le_refl _) (Nat.le_refl _) dX6_workOut_49
  · refine lv_iconst (v := 1) hx hb dX6_workOut_27 (by decide) ?_
    have eE : (ev (decE f k9 w nL) (d + 1) b z) = ((z.1 ||| bitI b, z.2), none) := by rw [ev, if_pos c_1]
    exact xw_zret hx hb hr hlocks (b := true) rfl hS ⟨by rw [eE]; rfl, by rw [eE]; exact ⟨hV, _, _, _, _, _, ⟨⟨hIq, hEn9⟩, hW9⟩, fun _ => ⟨rfl, rfl, rfl, rfl, hgk⟩, fun x hx => by cases hx⟩⟩ (Nat.le_refl _) (Nat.le_refl _) dX6_workOut_28
theorem c_workOut (l : Launch) (D : va_G) (cA : Nat → ClassId) (lab : Nat → Nat) (nm : Nat → Nat → Nat) (rf : Nat → Nat → Option Nat) (f : Nat → Nat → Int32) (nC nL nV : Nat) (ie9 k9 : Nat) (w : Option Nat) (hi : CRi f nC nL nV) (A : Nat → Prop) (hl9 : CRl A lab nm rf nC nL) (hk9 : k9 < nC) (hw9 : ∀ v, w = some v → v ≤ 512) : ∀ d, WOC l D cA lab nm rf f nC nL nV ie9 k9 w d := by
  intro d
  induction d with
  | zero =>
    intro b z g hb9 hcn
    have h1 : cnU z.2.1 ≤ 16 := cntF_le _ _
    omega
  | succ d ih => exact c_work l D cA lab nm rf f nC nL nV ie9 k9 w hi A hl9 hk9 hw9 d (c_parts l D cA lab nm rf f nC nL nV ie9 k9 w hi A hl9 hk9 hw9 d ih)
