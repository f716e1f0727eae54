set_option maxHeartbeats 4000000 in
set_option maxRecDepth 100000 in
/-- THE LAW, from its entry -/
theorem whole_start {p : Program} {e : Env} {s : State} {m : MethodId} {below : List Frame} {meth : Method} {c : Code} (l : Launch) (hflags : l.flags = flags0) {b L : Nat} {xs : Nat → Int32} (hL : L ≤ 3584) (C0 : lw_At p s m meth c b L xs) : W p l e room_1 s m #[Value.ref b] below meth c s.heap [] 0 0 (lw_Z below #[Value.ref b] s) (entryFrame m ([Value.ref b] : List Value).toArray 8) := by
  obtain ⟨hx, hb, hr, hml, hown, hts0, hXs, hbl, hlocks, hgv⟩ := C0
  have hst : l.stackTraces = false := by
    unfold Launch.stackTraces
    rw [hflags]
    decide
  have hb : c.code = cL_law := hb
  have hown : s.vm.findClass RL = some m.cls := hown
  obtain ⟨D, cA, hK⟩ := xK_of hts0 hgv
  obtain ⟨z, hX⟩ := lK_of hts0 hgv
  have hts : ∀ w ∈ wsL_law, w.before #[Value.ref b] s = true := fun w h => hts0 w (wsL_law_in w h)
  clear hts0 hgv
  have hS : va_S (fun q : Nat => s.heap.size ≤ q) s.heap s.heap [] := va_S.rf
  have hl := lv_entry ([.ref b]) (n := 8) (Nat.le_of_ble_eq_true rfl)
  rw [lg_entry_eq]
  generalize (lg_sl ([.ref b]) ++ List.replicate (8 - (lg_sl ([.ref b])).length) Slot.unset).toArray = ls at hl ⊢
  have hl : lv_has ls 8 [(0, .ref b)] := hl
  refine xn_o (ci := 7) hx hb hts inlX6 tyX6 tyX6_ok hown (hts (.classLink RL 8 RX6) (by decide +kernel)) (hts (.instantiable RX6 5) (by decide +kernel)) (hts (.initialized RX6) (by decide +kernel)) hK hS rfl [.null, .null, .null, .null, .null] (fun j hj => by rcases (show j = 0 ∨ j = 1 ∨ j = 2 ∨ j = 3 ∨ j = 4 from by omega) with rfl | rfl | rfl | rfl | rfl <;> rfl) (Nat.le_of_ble_eq_true rfl) (Nat.le_of_ble_eq_true rfl) dL_law_0 (fun o H ho go hO zO oO hS => ?_)
  refine lv_dup hx hb dL_law_3 rfl ?_
  have hH0 : s.heap.size ≤ H.size := hS.1
  refine xw_calln (va_runI (As := []) (rest := [.ref o]) ⟨hx, hb, hml, hown, hts⟩ (c_X6_init l D cA o z (fun q : Nat => s.heap.size ≤ q) (inS 128).2.1 (fun k _ => show (if (12 : Nat) = 10 ∧ k < 128 then (-1 : Int32) else 0) = 0 from if_neg (fun q => absurd q.1 (by decide))) H go (fun q h => Nat.le_trans hH0 h)) (cwI 0 hts gL_law_X6_init rfl rfl rfl (hts (.initialized RX6) (by decide +kernel)) (hts (.methodLink RL 117 yX6_init) (by decide +kernel)) (hts (.instanceMethod yX6_init) (by decide +kernel)) rfl (by decide +kernel) ⟨Nat.le_of_ble_eq_true rfl, Nat.le_of_ble_eq_true rfl⟩) (xPXS hK zK.blind (fun U hU hW => hX.1.1.at hS (fun q h => h) hU hW) ⟨rfl, hO⟩) rfl rfl hl.1 rfl (lv_room (Nat.le_of_ble_eq_true rfl)) dL_law_4 ⟨Nat.le_of_ble_eq_true rfl, Nat.le_of_ble_eq_true rfl⟩) hS (fun q _ h => h) (fun q h => h) (fun H9 locs hC z9 q9 hS => ?_)
  refine lv_astore_n (lv' := [(1, .ref o), (0, .ref b)]) hx hb dL_law_7 rfl hl (by decide) rfl (fun ls hl => ?_)
  have h01 : s.heap.size ≤ H9.size := hS.1
  have hC := hC.shrink (A' := fun q => s.heap.size ≤ q ∧ q < H9.size) (fun q h1 h2 => ⟨h2, h1⟩)
  refine xn_o (ci := 8) hx hb hts inlX7 tyX7 tyX7_ok hown (hts (.classLink RL 118 RX7) (by decide +kernel)) (hts (.instantiable RX7 26) (by decide +kernel)) (hts (.initialized RX7) (by decide +kernel)) hK hS rfl mF0 (fun j hj => by rcases (show j = 0 ∨ j = 1 ∨ j = 2 ∨ j = 3 ∨ j = 4 ∨ j = 5 ∨ j = 6 ∨ j = 7 ∨ j = 8 ∨ j = 9 ∨ j = 10 ∨ j = 11 ∨ j = 12 ∨ j = 13 ∨ j = 14 ∨ j = 15 ∨ j = 16 ∨ j = 17 ∨ j = 18 ∨ j = 19 ∨ j = 20 ∨ j = 21 ∨ j = 22 ∨ j = 23 ∨ j = 24 ∨ j = 25 from by omega) with rfl | rfl | rfl | rfl | rfl | rfl | rfl | rfl | rfl | rfl | rfl | rfl | rfl | rfl | rfl | rfl | rfl | rfl | rfl | rfl | rfl | rfl | rfl | rfl | rfl | rfl <;> rfl) (Nat.le_of_ble_eq_true rfl) (Nat.le_of_ble_eq_true rfl) dL_law_8 (fun M HM hM gM hN zM oM hS => ?_)
  have hC := hC.same (fun q h1 h2 => oM q h2.2)
  refine lv_dup hx hb dL_law_11 rfl ?_
  refine xw_calln (va_runI (As := []) (rest := [.ref M]) ⟨hx, hb, hml, hown, hts⟩ (c_X7_init l D cA (fun q => H9.size ≤ q) M HM) (cwI 0 hts gL_law_X7_init rfl rfl rfl (hts (.initialized RX7) (by decide +kernel)) (hts (.methodLink RL 120 yX7_init) (by decide +kernel)) (hts (.instanceMethod yX7_init) (by decide +kernel)) rfl (by decide +kernel) ⟨Nat.le_of_ble_eq_true rfl, Nat.le_of_ble_eq_true rfl⟩) (xPS hK ⟨rfl, hN, (by show H9.size ≤ M; omega), fun q h => (by show H9.size ≤ q; omega)⟩) rfl rfl hl.1 rfl (lv_room (Nat.le_of_ble_eq_true rfl)) dL_law_12 ⟨Nat.le_of_ble_eq_true rfl, Nat.le_of_ble_eq_true rfl⟩) hS (fun q _ h => Nat.le_trans h01 h) (fun q h => Nat.le_trans h01 h) (fun H8 locs hR z8 q8 hS => ?_)
  obtain ⟨ad0, hR⟩ := hR
  have hC := hC.same (fun q h1 h2 => q8 q h1 (fun h => absurd h2.2 (Nat.not_lt.mpr h)))
  refine lv_astore_n (lv' := [(2, .ref M), (1, .ref o), (0, .ref b)]) hx hb dL_law_15 rfl hl (by decide) rfl (fun ls hl => ?_)
  refine lv_iconst (v := 1) hx hb dL_law_16 (by decide) ?_
  refine xn_l hx hb (hts (.arrayClass .long) (by decide +kernel)) hK hS 1 (by decide) (by decide) (Nat.le_of_ble_eq_true rfl) (Nat.le_of_ble_eq_true rfl) (Nat.le_of_ble_eq_true rfl) dL_law_17 (fun ou HO hou gou hOu zOu oOu hS => ?_)
  refine lv_astore_n (lv' := [(3, .ref ou), (2, .ref M), (1, .ref o), (0, .ref b)]) hx hb dL_law_19 rfl hl (by decide) rfl (fun ls hl => ?_)
  refine lv_iconst (v := nI (7 * 0)) hx hb dL_law_20 (by decide) ?_
  refine lv_istore (lv' := [(4, .int (nI (7 * 0))), (3, .ref ou), (2, .ref M), (1, .ref o), (0, .ref b)]) hx hb dL_law_21 hl (by decide) rfl (fun ls hl => ?_)
  have h1u : H9.size ≤ ou := by omega
  have hC := (hC.same (fun q h1 _ => oOu q h1)).shrink (A' := aC s.heap.size H9.size ou) (fun q _ h => by
    have h2 : s.heap.size ≤ q ∧ q < H9.size := h
    show s.heap.size ≤ q ∧ ¬ (H9.size ≤ q ∧ q < ou) ∧ q ≠ ou
    omega)
  obtain ⟨ad, hR⟩ := hR.narrow (B := aM H9.size ou) (fun q h1 h2 => by
    have h3 : H9.size ≤ q := h1
    show H9.size ≤ q ∧ q < ou
    omega)
  have hR := hR.keptA (fun q h1 _ => oOu q h1)
  have hI : LI D cA s.heap.size H9.size ou z o M ad 0 HO := ⟨by omega, ⟨_, hOu⟩, inS 128, 0, 0, 0, hR, ⟨nI_0.symm, nI_0.symm, nI_0.symm⟩, hC, CRi.start, Nat.le_refl 0⟩
  refine W.widen (k := 40 + 10 * 0) (n := 70000 + 1200 * 0) (by omega) (by omega) ?_
  refine w_loopN (fun i H locs ls => 7 * i ≤ L ∧ LI D cA s.heap.size H9.size ou z o M ad i H ∧ va_S (fun q : Nat => s.heap.size ≤ q) s.heap H locs ∧ lv_has ls 8 [(0, .ref b), (1, .ref o), (2, .ref M), (3, .ref ou), (4, .int (nI (7 * i)))]) 512 40 70000 10 1200 (fun i H locs ls h => by have := h.1; omega) (fun i H locs ls h ih => ?_) 0 HO locs ls ⟨by omega, hI, hS, lv_sub hl [4, 3, 2, 1, 0] rfl⟩
  obtain ⟨g1, g2, g3, g4⟩ := h
  refine lw_head hx hb hml hown hts hK hX hXs hbl hL hst h01 h1u g1 g2 g3 g4 (fun ls => ?_) (fun H2 locs2 ls2 k1 k2 k3 k4 => ih H2 locs2 ls2 ⟨k1, k2, k3, k4⟩)
  refine lv_iconst (v := 1) hx hb dL_law_2495 (by decide) ?_
  refine va_forget (fun q hq => g3.2.2 q hq) ?_
  refine W.widen (k := 601024) (n := 7293034) (by omega) (by omega) ?_
  exact lw_ret hx hb hr hlocks dL_law_2496
