set_option maxHeartbeats 4000000 in
set_option maxRecDepth 100000 in
theorem c_L_client (l : Launch) (hst : l.stackTraces = false) (D : va_G) (cA : Nat → ClassId) (A : Nat → Prop) (z o ou : Nat) (f : Nat → Nat → Int32) (nC nL nV : Nat) (hi : CRi f nC nL nV) (H9 : Heap) (p1 : Int32) (p2 : Int32) (hou : ¬ A ou) (hAn : ∀ q, H9.size ≤ q → A q) : Met l yL_client wsL_client (rmK 42 6 1020) (xPX D cA (fun U => lK (fun q => A q ∨ q = ou) z U) [.ref o, .int p1, .int p2, .ref ou] (fun H => H = H9 ∧ CS D cA A z o f nC nL nV H ∧ ∃ o0, xL (cA 1) ou 1 o0 H)) (xW (lJ cA ou (kCl nC p1 p2) ((nI nC).toInt64) (CS D cA A z o ((clS (mS f) nC p1 p2).2.1) (nC + 1) nL nV) (CS D cA A z o f nC nL nV)) (fun q => A q ∨ q = ou)) 6 1020 (fun q => A q ∨ q = ou) := by
  refine va_MetW (cc := cL_client) (maxL := 5) (ret := (some .int)) (hh := [(0, 10, 13, 13), (0, 10, 17, 15)]) (by decide) rfl ?_
  intro p e s m args below meth c s₁ B hml hv
  obtain ⟨rfl, ⟨hK, hX⟩, hI⟩ := hv
  have hx := B.exec
  have hb := B.bytes
  have hr := B.returns
  have hts := atoms_spec (ws := wsL_client) B.pre
  have hown : s.vm.findClass RL = some m.cls := findClass_of_methodNamed B.named
  have hlocks := B.notSynchronized
  have htab := vx_table (x := yL_client) B (hts (.codeWith yL_client cL_client 5 (some .int) [(0, 10, 13, 13), (0, 10, 17, 15)]) List.mem_cons_self)
  have hl := lv_entry ([.ref o, .int p1, .int p2, .ref ou]) (n := 5) (Nat.le_of_ble_eq_true rfl)
  rw [lg_entry_eq]
  generalize (lg_sl ([.ref o, .int p1, .int p2, .ref ou]) ++ List.replicate (5 - (lg_sl ([.ref o, .int p1, .int p2, .ref ou])).length) Slot.unset).toArray = ls at hl ⊢
  have hl : lv_has ls 5 [(0, .ref o), (1, .int p1), (2, .int p2), (3, .ref ou)] := hl
  obtain ⟨hH9, ⟨lab, nm, rf, hV, hl9, hIQ, hz, ho⟩, o0, hO⟩ := hI
  subst hH9
  subst hz
  subst ho
  have hS : va_S (fun q => A q ∨ q = ou) s.heap s.heap [] := va_S.rf
  refine lv_aload_n hx hb dL_client_0 rfl (lv_at hl 3 rfl) ?_
  refine lv_iconst (v := 0) hx hb dL_client_1 (by decide) ?_
  refine lv_aload_n hx hb dL_client_2 rfl (lv_at hl 0 rfl) ?_
  refine lv_iload_n hx hb dL_client_3 rfl (lv_at hl 1 rfl) ?_
  refine lv_iload_n hx hb dL_client_4 rfl (lv_at hl 2 rfl) ?_
  refine xl_call (vx_runV (As := [.int p1, .int p2]) (rest := [.int 0, .ref ou]) ⟨hx, hb, hml, hown, hts⟩ (c_X6_client l hst D cA lab nm rf f nC nL nV hi A hl9 s.heap p1 p2 hAn) (cwV 2 hts gL_client_X6_client rfl rfl rfl (by decide +kernel) ⟨Nat.le_of_ble_eq_true rfl, Nat.le_of_ble_eq_true rfl⟩) (xPXV hK pK.blind (fun U hU hW => hX.1.at hS (fun _ h => Or.inl h) hU hW) hV.1 rfl ⟨rfl, hV, hIQ⟩) rfl rfl hl.1 rfl (lv_room (Nat.le_of_ble_eq_true rfl)) dL_client_5 ⟨Nat.le_of_ble_eq_true rfl, Nat.le_of_ble_eq_true rfl⟩) hS (fun _ _ h => Or.inl h) (fun _ h => Or.inl h) (fun hk0 ce q9 H locs hQ z9 qf hS g1 g2 g3 => ?_) (fun hk0 H locs hP z9 qf hS => ?_)
  · have hO := x_kept hO (qf _ (q_lt hO) hou)
    rcases (kr_kCl nC p1 p2).resolve_left hk0 with hk | hk
    · have g4 : s.vm.findClass "java/lang/IllegalArgumentException" = some ce.cls := by (try rw [hk] at g3); exact g3
      refine vx_catch hown [] ⟨0, 10, 13, 13⟩ [⟨0, 10, 17, 15⟩] (by rw [htab]; rfl) (fun z hz => by cases hz) (by decide) (by decide) (hts (.classLink RL 13 "java/lang/IllegalArgumentException") (by decide +kernel)) (va_Nw.use rfl (hX.1.2.2.2.2.2.2.2.2.2.2 _ (by decide))) g1 g2 g4 ?_
      refine W.eq (g2 := F0 m 13 ls [.ref q9]) rfl ?_
      refine lv_astore (lv' := [(4, .ref q9), (0, .ref (nm 0 0)), (1, .int p1), (2, .int p2), (3, .ref ou)]) hx hb dL_client_13 hl (by decide) rfl (fun ls hl => ?_)
      refine lv_iconst (v := 1) hx hb dL_client_15 (by decide) ?_
      exact xw_iret hx hb hr hlocks hS ⟨by rw [hk], Or.inr ⟨hk0, hQ, _, hO⟩⟩ (Nat.le_of_ble_eq_true rfl) (Nat.le_of_ble_eq_true rfl) dL_client_16
    · have g4 : s.vm.findClass "java/lang/IllegalStateException" = some ce.cls := by (try rw [hk] at g3); exact g3
      refine vx_catch hown [⟨0, 10, 13, 13⟩] ⟨0, 10, 17, 15⟩ [] (by rw [htab]; rfl) (fun z hz => by
          simp only [List.mem_cons, List.not_mem_nil, or_false] at hz
          subst hz
          exact Or.inr ⟨by decide, "java/lang/IllegalArgumentException", hts (.classLink RL 13 "java/lang/IllegalArgumentException") (by decide +kernel), hX.2 _ (by decide) _ (by decide) (by decide)⟩) (by decide) (by decide) (hts (.classLink RL 15 "java/lang/IllegalStateException") (by decide +kernel)) (va_Nw.use rfl (hX.1.2.2.2.2.2.2.2.2.2.2 _ (by decide))) g1 g2 g4 ?_
      refine W.eq (g2 := F0 m 17 ls [.ref q9]) rfl ?_
      refine lv_astore (lv' := [(4, .ref q9), (0, .ref (nm 0 0)), (1, .int p1), (2, .int p2), (3, .ref ou)]) hx hb dL_client_17 hl (by decide) rfl (fun ls hl => ?_)
      refine lv_iconst (v := 2) hx hb dL_client_19 (by decide) ?_
      exact xw_iret hx hb hr hlocks hS ⟨by rw [hk], Or.inr ⟨hk0, hQ, _, hO⟩⟩ (Nat.le_of_ble_eq_true rfl) (Nat.le_of_ble_eq_true rfl) dL_client_20
  · have hO := x_kept hO (qf _ (q_lt hO) hou)
    refine lv_i2l hx hb dL_client_8 rfl ?_
    have hPl := hP
    refine x_last hx hb hK hO hS (Or.inr rfl) 0 rfl (by omega) (by decide) dL_client_9 (fun H locs hO z8 q8 hS => ?_)
    have hP := hPl.same (fun q h1 h2 => q8 q (fun e => hou (by rw [← e]; exact h2)))
    refine lv_goto (tgt := 21) hx hb dL_client_10 (by decide) ?_
    refine lv_iconst (v := 0) hx hb dL_client_21 (by decide) ?_
    exact xw_iret hx hb hr hlocks hS ⟨by rw [hk0], Or.inl ⟨hk0, hP, hO⟩⟩ (Nat.le_of_ble_eq_true rfl) (Nat.le_of_ble_eq_true rfl) dL_client_22
set_option maxHeartbeats 4000000 in
set_option maxRecDepth 100000 in
theorem c_L_move (l : Launch) (hst : l.stackTraces = false) (D : va_G) (cA : Nat → ClassId) (A : Nat → Prop) (z o : Nat) (f : Nat → Nat → Int32) (nC nL nV : Nat) (hi : CRi f nC nL nV) (H9 : Heap) (p1 : Int32) (p2 : Int32) (p3 : Int32) (hAn : ∀ q, H9.size ≤ q → A q) : Met l yL_move wsL_move (rmK 42 3 18) (xPX D cA (fun U => lK (fun q => A q ∨ False) z U) [.ref o, .int p1, .int p2, .int p3] (fun H => H = H9 ∧ CS D cA A z o f nC nL nV H)) (xW (lJ0 (kMv nC p1 p2 p3) (CS D cA A z o ((mvS (mS f) p1 p2 p3).2.1) nC nL nV) (CS D cA A z o f nC nL nV)) (fun q => A q ∨ False)) 3 18 (fun q => A q ∨ False) := by
  refine va_MetW (cc := cL_move) (maxL := 5) (ret := (some .int)) (hh := [(0, 7, 10, 21), (0, 7, 14, 13)]) (by decide) rfl ?_
  intro p e s m args below meth c s₁ B hml hv
  obtain ⟨rfl, ⟨hK, hX⟩, hI⟩ := hv
  have hx := B.exec
  have hb := B.bytes
  have hr := B.returns
  have hts := atoms_spec (ws := wsL_move) B.pre
  have hown : s.vm.findClass RL = some m.cls := findClass_of_methodNamed B.named
  have hlocks := B.notSynchronized
  have htab := vx_table (x := yL_move) B (hts (.codeWith yL_move cL_move 5 (some .int) [(0, 7, 10, 21), (0, 7, 14, 13)]) List.mem_cons_self)
  have hl := lv_entry ([.ref o, .int p1, .int p2, .int p3]) (n := 5) (Nat.le_of_ble_eq_true rfl)
  rw [lg_entry_eq]
  generalize (lg_sl ([.ref o, .int p1, .int p2, .int p3]) ++ List.replicate (5 - (lg_sl ([.ref o, .int p1, .int p2, .int p3])).length) Slot.unset).toArray = ls at hl ⊢
  have hl : lv_has ls 5 [(0, .ref o), (1, .int p1), (2, .int p2), (3, .int p3)] := hl
  obtain ⟨hH9, ⟨lab, nm, rf, hV, hl9, hIQ, hz, ho⟩⟩ := hI
  subst hH9
  subst hz
  subst ho
  have hS : va_S (fun q => A q ∨ False) s.heap s.heap [] := va_S.rf
  refine lv_aload_n hx hb dL_move_0 rfl (lv_at hl 0 rfl) ?_
  refine lv_iload_n hx hb dL_move_1 rfl (lv_at hl 1 rfl) ?_
  refine lv_iload_n hx hb dL_move_2 rfl (lv_at hl 2 rfl) ?_
  refine lv_iload_n hx hb dL_move_3 rfl (lv_at hl 3 rfl) ?_
  refine xl_call (vx_runV (As := [.int p1, .int p2, .int p3]) (rest := []) ⟨hx, hb, hml, hown, hts⟩ (c_X6_move l hst D cA lab nm rf f nC nL nV hi A hl9 s.heap p1 p2 p3) (cwV 3 hts gL_move_X6_move rfl rfl rfl (by decide +kernel) ⟨Nat.le_of_ble_eq_true rfl, Nat.le_of_ble_eq_true rfl⟩) (xPXV hK pK.blind (fun U hU hW => hX.1.at hS (fun _ h => Or.inl h) hU hW) hV.1 rfl ⟨rfl, hV, hIQ⟩) rfl rfl hl.1 rfl (lv_room (Nat.le_of_ble_eq_true rfl)) dL_move_4 ⟨Nat.le_of_ble_eq_true rfl, Nat.le_of_ble_eq_true rfl⟩) hS (fun _ _ h => Or.inl h) (fun _ h => Or.inl h) (fun hk0 ce q9 H locs hQ z9 qf hS g1 g2 g3 => ?_) (fun hk0 H locs hP z9 qf hS => ?_)
  · skip
    rcases (kr_kMv nC p1 p2 p3).resolve_left hk0 with hk | hk
    · have g4 : s.vm.findClass "java/lang/IndexOutOfBoundsException" = some ce.cls := by (try rw [hk] at g3); exact g3
      refine vx_catch hown [] ⟨0, 7, 10, 21⟩ [⟨0, 7, 14, 13⟩] (by rw [htab]; rfl) (fun z hz => by cases hz) (by decide) (by decide) (hts (.classLink RL 21 "java/lang/IndexOutOfBoundsException") (by decide +kernel)) (va_Nw.use rfl (hX.1.2.2.2.2.2.2.2.2.2.2 _ (by decide))) g1 g2 g4 ?_
      refine W.eq (g2 := F0 m 10 ls [.ref q9]) rfl ?_
      refine lv_astore (lv' := [(4, .ref q9), (0, .ref (nm 0 0)), (1, .int p1), (2, .int p2), (3, .int p3)]) hx hb dL_move_10 hl (by decide) rfl (fun ls hl => ?_)
      refine lv_iconst (v := 1) hx hb dL_move_12 (by decide) ?_
      exact xw_iret hx hb hr hlocks hS ⟨by rw [hk], Or.inr ⟨hk0, hQ⟩⟩ (Nat.le_of_ble_eq_true rfl) (Nat.le_of_ble_eq_true rfl) dL_move_13
    · have g4 : s.vm.findClass "java/lang/IllegalArgumentException" = some ce.cls := by (try rw [hk] at g3); exact g3
      refine vx_catch hown [⟨0, 7, 10, 21⟩] ⟨0, 7, 14, 13⟩ [] (by rw [htab]; rfl) (fun z hz => by
          simp only [List.mem_cons, List.not_mem_nil, or_false] at hz
          subst hz
          exact Or.inr ⟨by decide, "java/lang/IndexOutOfBoundsException", hts (.classLink RL 21 "java/lang/IndexOutOfBoundsException") (by decide +kernel), hX.2 _ (by decide) _ (by decide) (by decide)⟩) (by decide) (by decide) (hts (.classLink RL 13 "java/lang/IllegalArgumentException") (by decide +kernel)) (va_Nw.use rfl (hX.1.2.2.2.2.2.2.2.2.2.2 _ (by decide))) g1 g2 g4 ?_
      refine W.eq (g2 := F0 m 14 ls [.ref q9]) rfl ?_
      refine lv_astore (lv' := [(4, .ref q9), (0, .ref (nm 0 0)), (1, .int p1), (2, .int p2), (3, .int p3)]) hx hb dL_move_14 hl (by decide) rfl (fun ls hl => ?_)
      refine lv_iconst (v := 2) hx hb dL_move_16 (by decide) ?_
      exact xw_iret hx hb hr hlocks hS ⟨by rw [hk], Or.inr ⟨hk0, hQ⟩⟩ (Nat.le_of_ble_eq_true rfl) (Nat.le_of_ble_eq_true rfl) dL_move_17
  · skip
    refine lv_goto (tgt := 18) hx hb dL_move_7 (by decide) ?_
    refine lv_iconst (v := 0) hx hb dL_move_18 (by decide) ?_
    exact xw_iret hx hb hr hlocks hS ⟨by rw [hk0], Or.inl ⟨hk0, hP⟩⟩ (Nat.le_of_ble_eq_true rfl) (Nat.le_of_ble_eq_true rfl) dL_move_19
set_option maxHeartbeats 4000000 in
set_option maxRecDepth 100000 in
theorem c_L_layer (l : Launch) (hst : l.stackTraces = false) (D : va_G) (cA : Nat → ClassId) (A : Nat → Prop) (z o ou : Nat) (f : Nat → Nat → Int32) (nC nL nV : Nat) (hi : CRi f nC nL nV) (H9 : Heap) (p1 : Int32) (p2 : Int32) (p3 : Int32) (hou : ¬ A ou) (hAn : ∀ q, H9.size ≤ q → A q) : Met l yL_layer wsL_layer (rmK 42 9 1080) (xPX D cA (fun U => lK (fun q => A q ∨ q = ou) z U) [.ref o, .int p1, .int p2, .int p3, .ref ou] (fun H => H = H9 ∧ CS D cA A z o f nC nL nV H ∧ ∃ o0, xL (cA 1) ou 1 o0 H)) (xW (lJ cA ou (kLy nL p1 p2 p3) ((nI nL).toInt64) (CS D cA A z o ((lyS (mS f) nL p1 p2 p3).2.1) nC (nL + 1) nV) (CS D cA A z o f nC nL nV)) (fun q => A q ∨ q = ou)) 9 1080 (fun q => A q ∨ q = ou) := by
  refine va_MetW (cc := cL_layer) (maxL := 6) (ret := (some .int)) (hh := [(0, 12, 15, 13), (0, 12, 19, 15)]) (by decide) rfl ?_
  intro p e s m args below meth c s₁ B hml hv
  obtain ⟨rfl, ⟨hK, hX⟩, hI⟩ := hv
  have hx := B.exec
  have hb := B.bytes
  have hr := B.returns
  have hts := atoms_spec (ws := wsL_layer) B.pre
  have hown : s.vm.findClass RL = some m.cls := findClass_of_methodNamed B.named
  have hlocks := B.notSynchronized
  have htab := vx_table (x := yL_layer) B (hts (.codeWith yL_layer cL_layer 6 (some .int) [(0, 12, 15, 13), (0, 12, 19, 15)]) List.mem_cons_self)
  have hl := lv_entry ([.ref o, .int p1, .int p2, .int p3, .ref ou]) (n := 6) (Nat.le_of_ble_eq_true rfl)
  rw [lg_entry_eq]
  generalize (lg_sl ([.ref o, .int p1, .int p2, .int p3, .ref ou]) ++ List.replicate (6 - (lg_sl ([.ref o, .int p1, .int p2, .int p3, .ref ou])).length) Slot.unset).toArray = ls at hl ⊢
  have hl : lv_has ls 6 [(0, .ref o), (1, .int p1), (2, .int p2), (3, .int p3), (4, .ref ou)] := hl
  obtain ⟨hH9, ⟨lab, nm, rf, hV, hl9, hIQ, hz, ho⟩, o0, hO⟩ := hI
  subst hH9
  subst hz
  subst ho
  have hS : va_S (fun q => A q ∨ q = ou) s.heap s.heap [] := va_S.rf
  refine lv_aload hx hb dL_layer_0 (lv_at hl 4 rfl) ?_
  refine lv_iconst (v := 0) hx hb dL_layer_2 (by decide) ?_
  refine lv_aload_n hx hb dL_layer_3 rfl (lv_at hl 0 rfl) ?_
  refine lv_iload_n hx hb dL_layer_4 rfl (lv_at hl 1 rfl) ?_
  refine lv_iload_n hx hb dL_layer_5 rfl (lv_at hl 2 rfl) ?_
  refine lv_iload_n hx hb dL_layer_6 rfl (lv_at hl 3 rfl) ?_
  refine xl_call (vx_runV (As := [.int p1, .int p2, .int p3]) (rest := [.int 0, .ref ou]) ⟨hx, hb, hml, hown, hts⟩ (c_X6_layer l hst D cA lab nm rf f nC nL nV hi A hl9 s.heap p1 p2 p3 hAn) (cwV 3 hts gL_layer_X6_layer rfl rfl rfl (by decide +kernel) ⟨Nat.le_of_ble_eq_true rfl, Nat.le_of_ble_eq_true rfl⟩) (xPXV hK pK.blind (fun U hU hW => hX.1.at hS (fun _ h => Or.inl h) hU hW) hV.1 rfl ⟨rfl, hV, hIQ⟩) rfl rfl hl.1 rfl (lv_room (Nat.le_of_ble_eq_true rfl)) dL_layer_7 ⟨Nat.le_of_ble_eq_true rfl, Nat.le_of_ble_eq_true rfl⟩) hS (fun _ _ h => Or.inl h) (fun _ h => Or.inl h) (fun hk0 ce q9 H locs hQ z9 qf hS g1 g2 g3 => ?_) (fun hk0 H locs hP z9 qf hS => ?_)
  · have hO := x_kept hO (qf _ (q_lt hO) hou)
    rcases (kr_kLy nL p1 p2 p3).resolve_left hk0 with hk | hk
    · have g4 : s.vm.findClass "java/lang/IllegalArgumentException" = some ce.cls := by (try rw [hk] at g3); exact g3
      refine vx_catch hown [] ⟨0, 12, 15, 13⟩ [⟨0, 12, 19, 15⟩] (by rw [htab]; rfl) (fun z hz => by cases hz) (by decide) (by decide) (hts (.classLink RL 13 "java/lang/IllegalArgumentException") (by decide +kernel)) (va_Nw.use rfl (hX.1.2.2.2.2.2.2.2.2.2.2 _ (by decide))) g1 g2 g4 ?_
      refine W.eq (g2 := F0 m 15 ls [.ref q9]) rfl ?_
      refine lv_astore (lv' := [(5, .ref q9), (0, .ref (nm 0 0)), (1, .int p1), (2, .int p2), (3, .int p3), (4, .ref ou)]) hx hb dL_layer_15 hl (by decide) rfl (fun ls hl => ?_)
      refine lv_iconst (v := 1) hx hb dL_layer_17 (by decide) ?_
      exact xw_iret hx hb hr hlocks hS ⟨by rw [hk], Or.inr ⟨hk0, hQ, _, hO⟩⟩ (Nat.le_of_ble_eq_true rfl) (Nat.le_of_ble_eq_true rfl) dL_layer_18
    · have g4 : s.vm.findClass "java/lang/IllegalStateException" = some ce.cls := by (try rw [hk] at g3); exact g3
      refine vx_catch hown [⟨0, 12, 15, 13⟩] ⟨0, 12, 19, 15⟩ [] (by rw [htab]; rfl) (fun z hz => by
          simp only [List.mem_cons, List.not_mem_nil, or_false] at hz
          subst hz
          exact Or.inr ⟨by decide, "java/lang/IllegalArgumentException", hts (.classLink RL 13 "java/lang/IllegalArgumentException") (by decide +kernel), hX.2 _ (by decide) _ (by decide) (by decide)⟩) (by decide) (by decide) (hts (.classLink RL 15 "java/lang/IllegalStateException") (by decide +kernel)) (va_Nw.use rfl (hX.1.2.2.2.2.2.2.2.2.2.2 _ (by decide))) g1 g2 g4 ?_
      refine W.eq (g2 := F0 m 19 ls [.ref q9]) rfl ?_
      refine lv_astore (lv' := [(5, .ref q9), (0, .ref (nm 0 0)), (1, .int p1), (2, .int p2), (3, .int p3), (4, .ref ou)]) hx hb dL_layer_19 hl (by decide) rfl (fun ls hl => ?_)
      refine lv_iconst (v := 2) hx hb dL_layer_21 (by decide) ?_
      exact xw_iret hx hb hr hlocks hS ⟨by rw [hk], Or.inr ⟨hk0, hQ, _, hO⟩⟩ (Nat.le_of_ble_eq_true rfl) (Nat.le_of_ble_eq_true rfl) dL_layer_22
  · have hO := x_kept hO (qf _ (q_lt hO) hou)
    refine lv_i2l hx hb dL_layer_10 rfl ?_
    have hPl := hP
    refine x_last hx hb hK hO hS (Or.inr rfl) 0 rfl (by omega) (by decide) dL_layer_11 (fun H locs hO z8 q8 hS => ?_)
    have hP := hPl.same (fun q h1 h2 => q8 q (fun e => hou (by rw [← e]; exact h2)))
    refine lv_goto (tgt := 23) hx hb dL_layer_12 (by decide) ?_
    refine lv_iconst (v := 0) hx hb dL_layer_23 (by decide) ?_
    exact xw_iret hx hb hr hlocks hS ⟨by rw [hk0], Or.inl ⟨hk0, hP, hO⟩⟩ (Nat.le_of_ble_eq_true rfl) (Nat.le_of_ble_eq_true rfl) dL_layer_24
set_option maxHeartbeats 4000000 in
set_option maxRecDepth 100000 in
theorem c_L_rank (l : Launch) (hst : l.stackTraces = false) (D : va_G) (cA : Nat → ClassId) (A : Nat → Prop) (z o ou : Nat) (f : Nat → Nat → Int32) (nC nL nV : Nat) (hi : CRi f nC nL nV) (H9 : Heap) (p1 : Int32) (p2 : Int32) (hou : ¬ A ou) (hAn : ∀ q, H9.size ≤ q → A q) : Met l yL_rank wsL_rank (rmK 42 3 18) (xPX D cA (fun U => lK (fun q => A q ∨ q = ou) z U) [.ref o, .int p1, .int p2, .ref ou] (fun H => H = H9 ∧ CS D cA A z o f nC nL nV H ∧ ∃ o0, xL (cA 1) ou 1 o0 H)) (xW (lJ cA ou (kRk nL p1 p2) ((f 3 (ix p1)).toInt64) (CS D cA A z o ((sa (mS f) 3 (ix p1) p2).2.1) nC nL nV) (CS D cA A z o f nC nL nV)) (fun q => A q ∨ q = ou)) 3 18 (fun q => A q ∨ q = ou) := by
  refine va_MetW (cc := cL_rank) (maxL := 5) (ret := (some .int)) (hh := [(0, 10, 13, 21), (0, 10, 17, 13)]) (by decide) rfl ?_
  intro p e s m args below meth c s₁ B hml hv
  obtain ⟨rfl, ⟨hK, hX⟩, hI⟩ := hv
  have hx := B.exec
  have hb := B.bytes
  have hr := B.returns
  have hts := atoms_spec (ws := wsL_rank) B.pre
  have hown : s.vm.findClass RL = some m.cls := findClass_of_methodNamed B.named
  have hlocks := B.notSynchronized
  have htab := vx_table (x := yL_rank) B (hts (.codeWith yL_rank cL_rank 5 (some .int) [(0, 10, 13, 21), (0, 10, 17, 13)]) List.mem_cons_self)
  have hl := lv_entry ([.ref o, .int p1, .int p2, .ref ou]) (n := 5) (Nat.le_of_ble_eq_true rfl)
  rw [lg_entry_eq]
  generalize (lg_sl ([.ref o, .int p1, .int p2, .ref ou]) ++ List.replicate (5 - (lg_sl ([.ref o, .int p1, .int p2, .ref ou])).length) Slot.unset).toArray = ls at hl ⊢
  have hl : lv_has ls 5 [(0, .ref o), (1, .int p1), (2, .int p2), (3, .ref ou)] := hl
  obtain ⟨hH9, ⟨lab, nm, rf, hV, hl9, hIQ, hz, ho⟩, o0, hO⟩ := hI
  subst hH9
  subst hz
  subst ho
  have hS : va_S (fun q => A q ∨ q = ou) s.heap s.heap [] := va_S.rf
  refine lv_aload_n hx hb dL_rank_0 rfl (lv_at hl 3 rfl) ?_
  refine lv_iconst (v := 0) hx hb dL_rank_1 (by decide) ?_
  refine lv_aload_n hx hb dL_rank_2 rfl (lv_at hl 0 rfl) ?_
  refine lv_iload_n hx hb dL_rank_3 rfl (lv_at hl 1 rfl) ?_
  refine lv_iload_n hx hb dL_rank_4 rfl (lv_at hl 2 rfl) ?_
  refine xl_call (vx_runV (As := [.int p1, .int p2]) (rest := [.int 0, .ref ou]) ⟨hx, hb, hml, hown, hts⟩ (c_X6_rank l hst D cA lab nm rf f nC nL nV hi A hl9 s.heap p1 p2) (cwV 2 hts gL_rank_X6_rank rfl rfl rfl (by decide +kernel) ⟨Nat.le_of_ble_eq_true rfl, Nat.le_of_ble_eq_true rfl⟩) (xPXV hK pK.blind (fun U hU hW => hX.1.at hS (fun _ h => Or.inl h) hU hW) hV.1 rfl ⟨rfl, hV, hIQ⟩) rfl rfl hl.1 rfl (lv_room (Nat.le_of_ble_eq_true rfl)) dL_rank_5 ⟨Nat.le_of_ble_eq_true rfl, Nat.le_of_ble_eq_true rfl⟩) hS (fun _ _ h => Or.inl h) (fun _ h => Or.inl h) (fun hk0 ce q9 H locs hQ z9 qf hS g1 g2 g3 => ?_) (fun hk0 H locs hP z9 qf hS => ?_)
  · have hO := x_kept hO (qf _ (q_lt hO) hou)
    rcases (kr_kRk nL p1 p2).resolve_left hk0 with hk | hk
    · have g4 : s.vm.findClass "java/lang/IndexOutOfBoundsException" = some ce.cls := by (try rw [hk] at g3); exact g3
      refine vx_catch hown [] ⟨0, 10, 13, 21⟩ [⟨0, 10, 17, 13⟩] (by rw [htab]; rfl) (fun z hz => by cases hz) (by decide) (by decide) (hts (.classLink RL 21 "java/lang/IndexOutOfBoundsException") (by decide +kernel)) (va_Nw.use rfl (hX.1.2.2.2.2.2.2.2.2.2.2 _ (by decide))) g1 g2 g4 ?_
      refine W.eq (g2 := F0 m 13 ls [.ref q9]) rfl ?_
      refine lv_astore (lv' := [(4, .ref q9), (0, .ref (nm 0 0)), (1, .int p1), (2, .int p2), (3, .ref ou)]) hx hb dL_rank_13 hl (by decide) rfl (fun ls hl => ?_)
      refine lv_iconst (v := 1) hx hb dL_rank_15 (by decide) ?_
      exact xw_iret hx hb hr hlocks hS ⟨by rw [hk], Or.inr ⟨hk0, hQ, _, hO⟩⟩ (Nat.le_of_ble_eq_true rfl) (Nat.le_of_ble_eq_true rfl) dL_rank_16
    · have g4 : s.vm.findClass "java/lang/IllegalArgumentException" = some ce.cls := by (try rw [hk] at g3); exact g3
      refine vx_catch hown [⟨0, 10, 13, 21⟩] ⟨0, 10, 17, 13⟩ [] (by rw [htab]; rfl) (fun z hz => by
          simp only [List.mem_cons, List.not_mem_nil, or_false] at hz
          subst hz
          exact Or.inr ⟨by decide, "java/lang/IndexOutOfBoundsException", hts (.classLink RL 21 "java/lang/IndexOutOfBoundsException") (by decide +kernel), hX.2 _ (by decide) _ (by decide) (by decide)⟩) (by decide) (by decide) (hts (.classLink RL 13 "java/lang/IllegalArgumentException") (by decide +kernel)) (va_Nw.use rfl (hX.1.2.2.2.2.2.2.2.2.2.2 _ (by decide))) g1 g2 g4 ?_
      refine W.eq (g2 := F0 m 17 ls [.ref q9]) rfl ?_
      refine lv_astore (lv' := [(4, .ref q9), (0, .ref (nm 0 0)), (1, .int p1), (2, .int p2), (3, .ref ou)]) hx hb dL_rank_17 hl (by decide) rfl (fun ls hl => ?_)
      refine lv_iconst (v := 2) hx hb dL_rank_19 (by decide) ?_
      exact xw_iret hx hb hr hlocks hS ⟨by rw [hk], Or.inr ⟨hk0, hQ, _, hO⟩⟩ (Nat.le_of_ble_eq_true rfl) (Nat.le_of_ble_eq_true rfl) dL_rank_20
  · have hO := x_kept hO (qf _ (q_lt hO) hou)
    refine lv_i2l hx hb dL_rank_8 rfl ?_
    have hPl := hP
    refine x_last hx hb hK hO hS (Or.inr rfl) 0 rfl (by omega) (by decide) dL_rank_9 (fun H locs hO z8 q8 hS => ?_)
    have hP := hPl.same (fun q h1 h2 => q8 q (fun e => hou (by rw [← e]; exact h2)))
    refine lv_goto (tgt := 21) hx hb dL_rank_10 (by decide) ?_
    refine lv_iconst (v := 0) hx hb dL_rank_21 (by decide) ?_
    exact xw_iret hx hb hr hlocks hS ⟨by rw [hk0], Or.inl ⟨hk0, hP, hO⟩⟩ (Nat.le_of_ble_eq_true rfl) (Nat.le_of_ble_eq_true rfl) dL_rank_22
set_option maxHeartbeats 4000000 in
set_option maxRecDepth 100000 in
theorem c_L_layerAt (l : Launch) (hst : l.stackTraces = false) (D : va_G) (cA : Nat → ClassId) (A : Nat → Prop) (z o ou : Nat) (f : Nat → Nat → Int32) (nC nL nV : Nat) (hi : CRi f nC nL nV) (H9 : Heap) (p1 : Int32) (hou : ¬ A ou) (hAn : ∀ q, H9.size ≤ q → A q) : Met l yL_layerAt wsL_layerAt (rmK 42 3 18) (xPX D cA (fun U => lK (fun q => A q ∨ q = ou) z U) [.ref o, .int p1, .ref ou] (fun H => H = H9 ∧ CS D cA A z o f nC nL nV H ∧ ∃ o0, xL (cA 1) ou 1 o0 H)) (xW (lJ cA ou (kLA nL p1) ((lyAt (f 3) nL p1).toInt64) (CS D cA A z o f nC nL nV) (CS D cA A z o f nC nL nV)) (fun q => A q ∨ q = ou)) 3 18 (fun q => A q ∨ q = ou) := by
  refine va_MetW (cc := cL_layerAt) (maxL := 4) (ret := (some .int)) (hh := [(0, 9, 12, 21)]) (by decide) rfl ?_
  intro p e s m args below meth c s₁ B hml hv
  obtain ⟨rfl, ⟨hK, hX⟩, hI⟩ := hv
  have hx := B.exec
  have hb := B.bytes
  have hr := B.returns
  have hts := atoms_spec (ws := wsL_layerAt) B.pre
  have hown : s.vm.findClass RL = some m.cls := findClass_of_methodNamed B.named
  have hlocks := B.notSynchronized
  have htab := vx_table (x := yL_layerAt) B (hts (.codeWith yL_layerAt cL_layerAt 4 (some .int) [(0, 9, 12, 21)]) List.mem_cons_self)
  have hl := lv_entry ([.ref o, .int p1, .ref ou]) (n := 4) (Nat.le_of_ble_eq_true rfl)
  rw [lg_entry_eq]
  generalize (lg_sl ([.ref o, .int p1, .ref ou]) ++ List.replicate (4 - (lg_sl ([.ref o, .int p1, .ref ou])).length) Slot.unset).toArray = ls at hl ⊢
  have hl : lv_has ls 4 [(0, .ref o), (1, .int p1), (2, .ref ou)] := hl
  obtain ⟨hH9, ⟨lab, nm, rf, hV, hl9, hIQ, hz, ho⟩, o0, hO⟩ := hI
  subst hH9
  subst hz
  subst ho
  have hS : va_S (fun q => A q ∨ q = ou) s.heap s.heap [] := va_S.rf
  refine lv_aload_n hx hb dL_layerAt_0 rfl (lv_at hl 2 rfl) ?_
  refine lv_iconst (v := 0) hx hb dL_layerAt_1 (by decide) ?_
  refine lv_aload_n hx hb dL_layerAt_2 rfl (lv_at hl 0 rfl) ?_
  refine lv_iload_n hx hb dL_layerAt_3 rfl (lv_at hl 1 rfl) ?_
  refine xl_call (vx_runV (As := [.int p1]) (rest := [.int 0, .ref ou]) ⟨hx, hb, hml, hown, hts⟩ (c_X6_layerAt l hst D cA lab nm rf f nC nL nV hi A hl9 s.heap p1) (cwV 1 hts gL_layerAt_X6_layerAt rfl rfl rfl (by decide +kernel) ⟨Nat.le_of_ble_eq_true rfl, Nat.le_of_ble_eq_true rfl⟩) (xPXV hK pK.blind (fun U hU hW => hX.1.at hS (fun _ h => Or.inl h) hU hW) hV.1 rfl ⟨rfl, hV, hIQ⟩) rfl rfl hl.1 rfl (lv_room (Nat.le_of_ble_eq_true rfl)) dL_layerAt_4 ⟨Nat.le_of_ble_eq_true rfl, Nat.le_of_ble_eq_true rfl⟩) hS (fun _ _ h => Or.inl h) (fun _ h => Or.inl h) (fun hk0 ce q9 H locs hQ z9 qf hS g1 g2 g3 => ?_) (fun hk0 H locs hP z9 qf hS => ?_)
  · have hO := x_kept hO (qf _ (q_lt hO) hou)
    have hk := (kr_kLA nL p1).resolve_left hk0
    have g4 : s.vm.findClass "java/lang/IndexOutOfBoundsException" = some ce.cls := by (try rw [hk] at g3); exact g3
    refine vx_catch hown [] ⟨0, 9, 12, 21⟩ [] (by rw [htab]; rfl) (fun z hz => by cases hz) (by decide) (by decide) (hts (.classLink RL 21 "java/lang/IndexOutOfBoundsException") (by decide +kernel)) (va_Nw.use rfl (hX.1.2.2.2.2.2.2.2.2.2.2 _ (by decide))) g1 g2 g4 ?_
    refine W.eq (g2 := F0 m 12 ls [.ref q9]) rfl ?_
    refine lv_astore_n (lv' := [(3, .ref q9), (0, .ref (nm 0 0)), (1, .int p1), (2, .ref ou)]) hx hb dL_layerAt_12 rfl hl (by decide) rfl (fun ls hl => ?_)
    refine lv_iconst (v := 1) hx hb dL_layerAt_13 (by decide) ?_
    exact xw_iret hx hb hr hlocks hS ⟨by rw [hk], Or.inr ⟨hk0, hQ, _, hO⟩⟩ (Nat.le_of_ble_eq_true rfl) (Nat.le_of_ble_eq_true rfl) dL_layerAt_14
  · have hO := x_kept hO (qf _ (q_lt hO) hou)
    refine lv_i2l hx hb dL_layerAt_7 rfl ?_
    have hPl := hP
    refine x_last hx hb hK hO hS (Or.inr rfl) 0 rfl (by omega) (by decide) dL_layerAt_8 (fun H locs hO z8 q8 hS => ?_)
    have hP := hPl.same (fun q h1 h2 => q8 q (fun e => hou (by rw [← e]; exact h2)))
    refine lv_goto (tgt := 15) hx hb dL_layerAt_9 (by decide) ?_
    refine lv_iconst (v := 0) hx hb dL_layerAt_15 (by decide) ?_
    exact xw_iret hx hb hr hlocks hS ⟨by rw [hk0], Or.inl ⟨hk0, hP, hO⟩⟩ (Nat.le_of_ble_eq_true rfl) (Nat.le_of_ble_eq_true rfl) dL_layerAt_16
set_option maxHeartbeats 4000000 in
set_option maxRecDepth 100000 in
theorem c_L_applies (l : Launch) (hst : l.stackTraces = false) (D : va_G) (cA : Nat → ClassId) (A : Nat → Prop) (z o ou : Nat) (f : Nat → Nat → Int32) (nC nL nV : Nat) (hi : CRi f nC nL nV) (H9 : Heap) (p1 : Int32) (p2 : Int32) (hou : ¬ A ou) (hAn : ∀ q, H9.size ≤ q → A q) : Met l yL_applies wsL_applies (rmK 42 3 18) (xPX D cA (fun U => lK (fun q => A q ∨ q = ou) z U) [.ref o, .int p1, .int p2, .ref ou] (fun H => H = H9 ∧ CS D cA A z o f nC nL nV H ∧ ∃ o0, xL (cA 1) ou 1 o0 H)) (xW (lJ cA ou (kAp nL nC p1 p2) (bL (forF f (ix p1) (ix p2))) (CS D cA A z o f nC nL nV) (CS D cA A z o f nC nL nV)) (fun q => A q ∨ q = ou)) 3 18 (fun q => A q ∨ q = ou) := by
  refine va_MetW (cc := cL_applies) (maxL := 5) (ret := (some .int)) (hh := [(0, 17, 20, 21)]) (by decide) rfl ?_
  intro p e s m args below meth c s₁ B hml hv
  obtain ⟨rfl, ⟨hK, hX⟩, hI⟩ := hv
  have hx := B.exec
  have hb := B.bytes
  have hr := B.returns
  have hts := atoms_spec (ws := wsL_applies) B.pre
  have hown : s.vm.findClass RL = some m.cls := findClass_of_methodNamed B.named
  have hlocks := B.notSynchronized
  have htab := vx_table (x := yL_applies) B (hts (.codeWith yL_applies cL_applies 5 (some .int) [(0, 17, 20, 21)]) List.mem_cons_self)
  have hl := lv_entry ([.ref o, .int p1, .int p2, .ref ou]) (n := 5) (Nat.le_of_ble_eq_true rfl)
  rw [lg_entry_eq]
  generalize (lg_sl ([.ref o, .int p1, .int p2, .ref ou]) ++ List.replicate (5 - (lg_sl ([.ref o, .int p1, .int p2, .ref ou])).length) Slot.unset).toArray = ls at hl ⊢
  have hl : lv_has ls 5 [(0, .ref o), (1, .int p1), (2, .int p2), (3, .ref ou)] := hl
  obtain ⟨hH9, ⟨lab, nm, rf, hV, hl9, hIQ, hz, ho⟩, o0, hO⟩ := hI
  subst hH9
  subst hz
  subst ho
  have hS : va_S (fun q => A q ∨ q = ou) s.heap s.heap [] := va_S.rf
  refine lv_aload_n hx hb dL_applies_0 rfl (lv_at hl 3 rfl) ?_
  refine lv_iconst (v := 0) hx hb dL_applies_1 (by decide) ?_
  refine lv_aload_n hx hb dL_applies_2 rfl (lv_at hl 0 rfl) ?_
  refine lv_iload_n hx hb dL_applies_3 rfl (lv_at hl 1 rfl) ?_
  refine lv_iload_n hx hb dL_applies_4 rfl (lv_at hl 2 rfl) ?_
  refine xl_call (vx_runV (As := [.int p1, .int p2]) (rest := [.int 0, .ref ou]) ⟨hx, hb, hml, hown, hts⟩ (c_X6_applies l hst D cA lab nm rf f nC nL nV hi A hl9 s.heap p1 p2) (cwV 2 hts gL_applies_X6_applies rfl rfl rfl (by decide +kernel) ⟨Nat.le_of_ble_eq_true rfl, Nat.le_of_ble_eq_true rfl⟩) (xPXV hK pK.blind (fun U hU hW => hX.1.at hS (fun _ h => Or.inl h) hU hW) hV.1 rfl ⟨rfl, hV, hIQ⟩) rfl rfl hl.1 rfl (lv_room (Nat.le_of_ble_eq_true rfl)) dL_applies_5 ⟨Nat.le_of_ble_eq_true rfl, Nat.le_of_ble_eq_true rfl⟩) hS (fun _ _ h => Or.inl h) (fun _ h => Or.inl h) (fun hk0 ce q9 H locs hQ z9 qf hS g1 g2 g3 => ?_) (fun hk0 H locs hP z9 qf hS => ?_)
  · have hO := x_kept hO (qf _ (q_lt hO) hou)
    have hk := (kr_kAp nL nC p1 p2).resolve_left hk0
    have g4 : s.vm.findClass "java/lang/IndexOutOfBoundsException" = some ce.cls := by (try rw [hk] at g3); exact g3
    refine vx_catch hown [] ⟨0, 17, 20, 21⟩ [] (by rw [htab]; rfl) (fun z hz => by cases hz) (by decide) (by decide) (hts (.classLink RL 21 "java/lang/IndexOutOfBoundsException") (by decide +kernel)) (va_Nw.use rfl (hX.1.2.2.2.2.2.2.2.2.2.2 _ (by decide))) g1 g2 g4 ?_
    refine W.eq (g2 := F0 m 20 ls [.ref q9]) rfl ?_
    refine lv_astore (lv' := [(4, .ref q9), (0, .ref (nm 0 0)), (1, .int p1), (2, .int p2), (3, .ref ou)]) hx hb dL_applies_20 hl (by decide) rfl (fun ls hl => ?_)
    refine lv_iconst (v := 1) hx hb dL_applies_22 (by decide) ?_
    exact xw_iret hx hb hr hlocks hS ⟨by rw [hk], Or.inr ⟨hk0, hQ, _, hO⟩⟩ (Nat.le_of_ble_eq_true rfl) (Nat.le_of_ble_eq_true rfl) dL_applies_23
  · have hO := x_kept hO (qf _ (q_lt hO) hou)
    refine xb_eq (tgt := 15) hx hb dL_applies_8 (by decide) (fun c_1 => ?_) (fun c_1 => ?_)
    · refine lv_lconst (v := 0) hx hb dL_applies_15 (by decide) ?_
      have hPl := hP
      refine x_last hx hb hK hO hS (Or.inr rfl) 0 rfl (by omega) (by decide) dL_applies_16 (fun H locs hO z8 q8 hS => ?_)
      have hP := hPl.same (fun q h1 h2 => q8 q (fun e => hou (by rw [← e]; exact h2)))
      refine lv_goto (tgt := 24) hx hb dL_applies_17 (by decide) ?_
      refine lv_iconst (v := 0) hx hb dL_applies_24 (by decide) ?_
      exact xw_iret hx hb hr hlocks hS ⟨by rw [hk0], Or.inl ⟨hk0, hP, (by unfold bL; rw [c_1]; exact hO)⟩⟩ (Nat.le_of_ble_eq_true rfl) (Nat.le_of_ble_eq_true rfl) dL_applies_25
    · refine lv_lconst (v := 1) hx hb dL_applies_11 (by decide) ?_
      refine lv_goto (tgt := 16) hx hb dL_applies_12 (by decide) ?_
      have hPl := hP
      refine x_last hx hb hK hO hS (Or.inr rfl) 0 rfl (by omega) (by decide) dL_applies_16 (fun H locs hO z8 q8 hS => ?_)
      have hP := hPl.same (fun q h1 h2 => q8 q (fun e => hou (by rw [← e]; exact h2)))
      refine lv_goto (tgt := 24) hx hb dL_applies_17 (by decide) ?_
      refine lv_iconst (v := 0) hx hb dL_applies_24 (by decide) ?_
      exact xw_iret hx hb hr hlocks hS ⟨by rw [hk0], Or.inl ⟨hk0, hP, (by unfold bL; rw [c_1]; exact hO)⟩⟩ (Nat.le_of_ble_eq_true rfl) (Nat.le_of_ble_eq_true rfl) dL_applies_25
set_option maxHeartbeats 4000000 in
set_option maxRecDepth 100000 in
theorem c_L_set (l : Launch) (hst : l.stackTraces = false) (D : va_G) (cA : Nat → ClassId) (A : Nat → Prop) (z o ou : Nat) (f : Nat → Nat → Int32) (nC nL nV : Nat) (hi : CRi f nC nL nV) (H9 : Heap) (p1 : Int32) (p2 : Int32) (p3 : Int32) (p4 : Int32) (hou : ¬ A ou) (hAn : ∀ q, H9.size ≤ q → A q) : Met l yL_set wsL_set (rmK 42 8 1160) (xPX D cA (fun U => lK (fun q => A q ∨ q = ou) z U) [.ref o, .int p1, .int p2, .int p3, .int p4, .ref ou] (fun H => H = H9 ∧ CS D cA A z o f nC nL nV H ∧ ∃ o0, xL (cA 1) ou 1 o0 H)) (xW (lJ cA ou (wrF (mS f) nL p1 p2 (okB p3) p4 false) ((nI (putV (mS f) nV (cl p1 p2) (enc p3 (-1) (-1)))).toInt64) (CS D cA A z o ((putS (mS f) nV (cl p1 p2) (enc p3 (-1) (-1))).2.1) nC nL (putV (mS f) nV (cl p1 p2) (enc p3 (-1) (-1)))) (CS D cA A z o f nC nL nV)) (fun q => A q ∨ q = ou)) 8 1160 (fun q => A q ∨ q = ou) := by
  refine va_MetW (cc := cL_set) (maxL := 7) (ret := (some .int)) (hh := [(0, 14, 17, 21), (0, 14, 21, 13), (0, 14, 25, 15)]) (by decide) rfl ?_
  intro p e s m args below meth c s₁ B hml hv
  obtain ⟨rfl, ⟨hK, hX⟩, hI⟩ := hv
  have hx := B.exec
  have hb := B.bytes
  have hr := B.returns
  have hts := atoms_spec (ws := wsL_set) B.pre
  have hown : s.vm.findClass RL = some m.cls := findClass_of_methodNamed B.named
  have hlocks := B.notSynchronized
  have htab := vx_table (x := yL_set) B (hts (.codeWith yL_set cL_set 7 (some .int) [(0, 14, 17, 21), (0, 14, 21, 13), (0, 14, 25, 15)]) List.mem_cons_self)
  have hl := lv_entry ([.ref o, .int p1, .int p2, .int p3, .int p4, .ref ou]) (n := 7) (Nat.le_of_ble_eq_true rfl)
  rw [lg_entry_eq]
  generalize (lg_sl ([.ref o, .int p1, .int p2, .int p3, .int p4, .ref ou]) ++ List.replicate (7 - (lg_sl ([.ref o, .int p1, .int p2, .int p3, .int p4, .ref ou])).length) Slot.unset).toArray = ls at hl ⊢
  have hl : lv_has ls 7 [(0, .ref o), (1, .int p1), (2, .int p2), (3, .int p3), (4, .int p4), (5, .ref ou)] := hl
  obtain ⟨hH9, ⟨lab, nm, rf, hV, hl9, hIQ, hz, ho⟩, o0, hO⟩ := hI
  subst hH9
  subst hz
  subst ho
  have hS : va_S (fun q => A q ∨ q = ou) s.heap s.heap [] := va_S.rf
  refine lv_aload hx hb dL_set_0 (lv_at hl 5 rfl) ?_
  refine lv_iconst (v := 0) hx hb dL_set_2 (by decide) ?_
  refine lv_aload_n hx hb dL_set_3 rfl (lv_at hl 0 rfl) ?_
  refine lv_iload_n hx hb dL_set_4 rfl (lv_at hl 1 rfl) ?_
  refine lv_iload_n hx hb dL_set_5 rfl (lv_at hl 2 rfl) ?_
  refine lv_iload_n hx hb dL_set_6 rfl (lv_at hl 3 rfl) ?_
  refine lv_iload hx hb dL_set_7 (lv_at hl 4 rfl) ?_
  refine xl_call (vx_runV (As := [.int p1, .int p2, .int p3, .int p4]) (rest := [.int 0, .ref ou]) ⟨hx, hb, hml, hown, hts⟩ (c_X6_set l hst D cA lab nm rf f nC nL nV hi A hl9 s.heap p1 p2 p3 p4 hAn) (cwV 4 hts gL_set_X6_set rfl rfl rfl (by decide +kernel) ⟨Nat.le_of_ble_eq_true rfl, Nat.le_of_ble_eq_true rfl⟩) (xPXV hK pK.blind (fun U hU hW => hX.1.at hS (fun _ h => Or.inl h) hU hW) hV.1 rfl ⟨rfl, hV, hIQ⟩) rfl rfl hl.1 rfl (lv_room (Nat.le_of_ble_eq_true rfl)) dL_set_9 ⟨Nat.le_of_ble_eq_true rfl, Nat.le_of_ble_eq_true rfl⟩) hS (fun _ _ h => Or.inl h) (fun _ h => Or.inl h) (fun hk0 ce q9 H locs hQ z9 qf hS g1 g2 g3 => ?_) (fun hk0 H locs hP z9 qf hS => ?_)
  · have hO := x_kept hO (qf _ (q_lt hO) hou)
    rcases (kr_wrF (mS f) nL p1 p2 (okB p3) p4 false).resolve_left hk0 with hk | hk | hk
    · have g4 : s.vm.findClass "java/lang/IndexOutOfBoundsException" = some ce.cls := by (try rw [hk] at g3); exact g3
      refine vx_catch hown [] ⟨0, 14, 17, 21⟩ [⟨0, 14, 21, 13⟩, ⟨0, 14, 25, 15⟩] (by rw [htab]; rfl) (fun z hz => by cases hz) (by decide) (by decide) (hts (.classLink RL 21 "java/lang/IndexOutOfBoundsException") (by decide +kernel)) (va_Nw.use rfl (hX.1.2.2.2.2.2.2.2.2.2.2 _ (by decide))) g1 g2 g4 ?_
      refine W.eq (g2 := F0 m 17 ls [.ref q9]) rfl ?_
      refine lv_astore (lv' := [(6, .ref q9), (0, .ref (nm 0 0)), (1, .int p1), (2, .int p2), (3, .int p3), (4, .int p4), (5, .ref ou)]) hx hb dL_set_17 hl (by decide) rfl (fun ls hl => ?_)
      refine lv_iconst (v := 1) hx hb dL_set_19 (by decide) ?_
      exact xw_iret hx hb hr hlocks hS ⟨by rw [hk], Or.inr ⟨hk0, hQ, _, hO⟩⟩ (Nat.le_of_ble_eq_true rfl) (Nat.le_of_ble_eq_true rfl) dL_set_20
    · have g4 : s.vm.findClass "java/lang/IllegalArgumentException" = some ce.cls := by (try rw [hk] at g3); exact g3
      refine vx_catch hown [⟨0, 14, 17, 21⟩] ⟨0, 14, 21, 13⟩ [⟨0, 14, 25, 15⟩] (by rw [htab]; rfl) (fun z hz => by
          simp only [List.mem_cons, List.not_mem_nil, or_false] at hz
          subst hz
          exact Or.inr ⟨by decide, "java/lang/IndexOutOfBoundsException", hts (.classLink RL 21 "java/lang/IndexOutOfBoundsException") (by decide +kernel), hX.2 _ (by decide) _ (by decide) (by decide)⟩) (by decide) (by decide) (hts (.classLink RL 13 "java/lang/IllegalArgumentException") (by decide +kernel)) (va_Nw.use rfl (hX.1.2.2.2.2.2.2.2.2.2.2 _ (by decide))) g1 g2 g4 ?_
      refine W.eq (g2 := F0 m 21 ls [.ref q9]) rfl ?_
      refine lv_astore (lv' := [(6, .ref q9), (0, .ref (nm 0 0)), (1, .int p1), (2, .int p2), (3, .int p3), (4, .int p4), (5, .ref ou)]) hx hb dL_set_21 hl (by decide) rfl (fun ls hl => ?_)
      refine lv_iconst (v := 2) hx hb dL_set_23 (by decide) ?_
      exact xw_iret hx hb hr hlocks hS ⟨by rw [hk], Or.inr ⟨hk0, hQ, _, hO⟩⟩ (Nat.le_of_ble_eq_true rfl) (Nat.le_of_ble_eq_true rfl) dL_set_24
    · have g4 : s.vm.findClass "java/lang/IllegalStateException" = some ce.cls := by (try rw [hk] at g3); exact g3
      refine vx_catch hown [⟨0, 14, 17, 21⟩, ⟨0, 14, 21, 13⟩] ⟨0, 14, 25, 15⟩ [] (by rw [htab]; rfl) (fun z hz => by
          simp only [List.mem_cons, List.not_mem_nil, or_false] at hz
          rcases hz with rfl | rfl
          · exact Or.inr ⟨by decide, "java/lang/IndexOutOfBoundsException", hts (.classLink RL 21 "java/lang/IndexOutOfBoundsException") (by decide +kernel), hX.2 _ (by decide) _ (by decide) (by decide)⟩
          · exact Or.inr ⟨by decide, "java/lang/IllegalArgumentException", hts (.classLink RL 13 "java/lang/IllegalArgumentException") (by decide +kernel), hX.2 _ (by decide) _ (by decide) (by decide)⟩) (by decide) (by decide) (hts (.classLink RL 15 "java/lang/IllegalStateException") (by decide +kernel)) (va_Nw.use rfl (hX.1.2.2.2.2.2.2.2.2.2.2 _ (by decide))) g1 g2 g4 ?_
      refine W.eq (g2 := F0 m 25 ls [.ref q9]) rfl ?_
      refine lv_astore (lv' := [(6, .ref q9), (0, .ref (nm 0 0)), (1, .int p1), (2, .int p2), (3, .int p3), (4, .int p4), (5, .ref ou)]) hx hb dL_set_25 hl (by decide) rfl (fun ls hl => ?_)
      refine lv_iconst (v := 3) hx hb dL_set_27 (by decide) ?_
      exact xw_iret hx hb hr hlocks hS ⟨by rw [hk], Or.inr ⟨hk0, hQ, _, hO⟩⟩ (Nat.le_of_ble_eq_true rfl) (Nat.le_of_ble_eq_true rfl) dL_set_28
  · have hO := x_kept hO (qf _ (q_lt hO) hou)
    refine lv_i2l hx hb dL_set_12 rfl ?_
    have hPl := hP
    refine x_last hx hb hK hO hS (Or.inr rfl) 0 rfl (by omega) (by decide) dL_set_13 (fun H locs hO z8 q8 hS => ?_)
    have hP := hPl.same (fun q h1 h2 => q8 q (fun e => hou (by rw [← e]; exact h2)))
    refine lv_goto (tgt := 29) hx hb dL_set_14 (by decide) ?_
    refine lv_iconst (v := 0) hx hb dL_set_29 (by decide) ?_
    exact xw_iret hx hb hr hlocks hS ⟨by rw [hk0], Or.inl ⟨hk0, hP, hO⟩⟩ (Nat.le_of_ble_eq_true rfl) (Nat.le_of_ble_eq_true rfl) dL_set_30
set_option maxHeartbeats 4000000 in
set_option maxRecDepth 100000 in
theorem c_L_template (l : Launch) (hst : l.stackTraces = false) (D : va_G) (cA : Nat → ClassId) (A : Nat → Prop) (z o ou : Nat) (f : Nat → Nat → Int32) (nC nL nV : Nat) (hi : CRi f nC nL nV) (H9 : Heap) (p1 : Int32) (p2 : Int32) (p3 : Int32) (p4 : Int32) (p5 : Int32) (p6 : Int32) (hou : ¬ A ou) (hAn : ∀ q, H9.size ≤ q → A q) : Met l yL_template wsL_template (rmK 42 8 1160) (xPX D cA (fun U => lK (fun q => A q ∨ q = ou) z U) [.ref o, .int p1, .int p2, .int p3, .int p4, .int p5, .int p6, .ref ou] (fun H => H = H9 ∧ CS D cA A z o f nC nL nV H ∧ ∃ o0, xL (cA 1) ou 1 o0 H)) (xW (lJ cA ou (wrF (mS f) nL p1 p2 (okB p3 && okT p4 p5) p6 false) ((nI (putV (mS f) nV (cl p1 p2) (enc p3 p4 p5))).toInt64) (CS D cA A z o ((putS (mS f) nV (cl p1 p2) (enc p3 p4 p5)).2.1) nC nL (putV (mS f) nV (cl p1 p2) (enc p3 p4 p5))) (CS D cA A z o f nC nL nV)) (fun q => A q ∨ q = ou)) 8 1160 (fun q => A q ∨ q = ou) := by
  refine va_MetW (cc := cL_template) (maxL := 9) (ret := (some .int)) (hh := [(0, 18, 21, 21), (0, 18, 25, 13), (0, 18, 29, 15)]) (by decide) rfl ?_
  intro p e s m args below meth c s₁ B hml hv
  obtain ⟨rfl, ⟨hK, hX⟩, hI⟩ := hv
  have hx := B.exec
  have hb := B.bytes
  have hr := B.returns
  have hts := atoms_spec (ws := wsL_template) B.pre
  have hown : s.vm.findClass RL = some m.cls := findClass_of_methodNamed B.named
  have hlocks := B.notSynchronized
  have htab := vx_table (x := yL_template) B (hts (.codeWith yL_template cL_template 9 (some .int) [(0, 18, 21, 21), (0, 18, 25, 13), (0, 18, 29, 15)]) List.mem_cons_self)
  have hl := lv_entry ([.ref o, .int p1, .int p2, .int p3, .int p4, .int p5, .int p6, .ref ou]) (n := 9) (Nat.le_of_ble_eq_true rfl)
  rw [lg_entry_eq]
  generalize (lg_sl ([.ref o, .int p1, .int p2, .int p3, .int p4, .int p5, .int p6, .ref ou]) ++ List.replicate (9 - (lg_sl ([.ref o, .int p1, .int p2, .int p3, .int p4, .int p5, .int p6, .ref ou])).length) Slot.unset).toArray = ls at hl ⊢
  have hl : lv_has ls 9 [(0, .ref o), (1, .int p1), (2, .int p2), (3, .int p3), (4, .int p4), (5, .int p5), (6, .int p6), (7, .ref ou)] := hl
  obtain ⟨hH9, ⟨lab, nm, rf, hV, hl9, hIQ, hz, ho⟩, o0, hO⟩ := hI
  subst hH9
  subst hz
  subst ho
  have hS : va_S (fun q => A q ∨ q = ou) s.heap s.heap [] := va_S.rf
  refine lv_aload hx hb dL_template_0 (lv_at hl 7 rfl) ?_
  refine lv_iconst (v := 0) hx hb dL_template_2 (by decide) ?_
  refine lv_aload_n hx hb dL_template_3 rfl (lv_at hl 0 rfl) ?_
  refine lv_iload_n hx hb dL_template_4 rfl (lv_at hl 1 rfl) ?_
  refine lv_iload_n hx hb dL_template_5 rfl (lv_at hl 2 rfl) ?_
  refine lv_iload_n hx hb dL_template_6 rfl (lv_at hl 3 rfl) ?_
  refine lv_iload hx hb dL_template_7 (lv_at hl 4 rfl) ?_
  refine lv_iload hx hb dL_template_9 (lv_at hl 5 rfl) ?_
  refine lv_iload hx hb dL_template_11 (lv_at hl 6 rfl) ?_
  refine xl_call (vx_runV (As := [.int p1, .int p2, .int p3, .int p4, .int p5, .int p6]) (rest := [.int 0, .ref ou]) ⟨hx, hb, hml, hown, hts⟩ (c_X6_template l hst D cA lab nm rf f nC nL nV hi A hl9 s.heap p1 p2 p3 p4 p5 p6 hAn) (cwV 6 hts gL_template_X6_template rfl rfl rfl (by decide +kernel) ⟨Nat.le_of_ble_eq_true rfl, Nat.le_of_ble_eq_true rfl⟩) (xPXV hK pK.blind (fun U hU hW => hX.1.at hS (fun _ h => Or.inl h) hU hW) hV.1 rfl ⟨rfl, hV, hIQ⟩) rfl rfl hl.1 rfl (lv_room (Nat.le_of_ble_eq_true rfl)) dL_template_13 ⟨Nat.le_of_ble_eq_true rfl, Nat.le_of_ble_eq_true rfl⟩) hS (fun _ _ h => Or.inl h) (fun _ h => Or.inl h) (fun hk0 ce q9 H locs hQ z9 qf hS g1 g2 g3 => ?_) (fun hk0 H locs hP z9 qf hS => ?_)
  · have hO := x_kept hO (qf _ (q_lt hO) hou)
    rcases (kr_wrF (mS f) nL p1 p2 (okB p3 && okT p4 p5) p6 false).resolve_left hk0 with hk | hk | hk
    · have g4 : s.vm.findClass "java/lang/IndexOutOfBoundsException" = some ce.cls := by (try rw [hk] at g3); exact g3
      refine vx_catch hown [] ⟨0, 18, 21, 21⟩ [⟨0, 18, 25, 13⟩, ⟨0, 18, 29, 15⟩] (by rw [htab]; rfl) (fun z hz => by cases hz) (by decide) (by decide) (hts (.classLink RL 21 "java/lang/IndexOutOfBoundsException") (by decide +kernel)) (va_Nw.use rfl (hX.1.2.2.2.2.2.2.2.2.2.2 _ (by decide))) g1 g2 g4 ?_
      refine W.eq (g2 := F0 m 21 ls [.ref q9]) rfl ?_
      refine lv_astore (lv' := [(8, .ref q9), (0, .ref (nm 0 0)), (1, .int p1), (2, .int p2), (3, .int p3), (4, .int p4), (5, .int p5), (6, .int p6), (7, .ref ou)]) hx hb dL_template_21 hl (by decide) rfl (fun ls hl => ?_)
      refine lv_iconst (v := 1) hx hb dL_template_23 (by decide) ?_
      exact xw_iret hx hb hr hlocks hS ⟨by rw [hk], Or.inr ⟨hk0, hQ, _, hO⟩⟩ (Nat.le_of_ble_eq_true rfl) (Nat.le_of_ble_eq_true rfl) dL_template_24
    · have g4 : s.vm.findClass "java/lang/IllegalArgumentException" = some ce.cls := by (try rw [hk] at g3); exact g3
      refine vx_catch hown [⟨0, 18, 21, 21⟩] ⟨0, 18, 25, 13⟩ [⟨0, 18, 29, 15⟩] (by rw [htab]; rfl) (fun z hz => by
          simp only [List.mem_cons, List.not_mem_nil, or_false] at hz
          subst hz
          exact Or.inr ⟨by decide, "java/lang/IndexOutOfBoundsException", hts (.classLink RL 21 "java/lang/IndexOutOfBoundsException") (by decide +kernel), hX.2 _ (by decide) _ (by decide) (by decide)⟩) (by decide) (by decide) (hts (.classLink RL 13 "java/lang/IllegalArgumentException") (by decide +kernel)) (va_Nw.use rfl (hX.1.2.2.2.2.2.2.2.2.2.2 _ (by decide))) g1 g2 g4 ?_
      refine W.eq (g2 := F0 m 25 ls [.ref q9]) rfl ?_
      refine lv_astore (lv' := [(8, .ref q9), (0, .ref (nm 0 0)), (1, .int p1), (2, .int p2), (3, .int p3), (4, .int p4), (5, .int p5), (6, .int p6), (7, .ref ou)]) hx hb dL_template_25 hl (by decide) rfl (fun ls hl => ?_)
      refine lv_iconst (v := 2) hx hb dL_template_27 (by decide) ?_
      exact xw_iret hx hb hr hlocks hS ⟨by rw [hk], Or.inr ⟨hk0, hQ, _, hO⟩⟩ (Nat.le_of_ble_eq_true rfl) (Nat.le_of_ble_eq_true rfl) dL_template_28
    · have g4 : s.vm.findClass "java/lang/IllegalStateException" = some ce.cls := by (try rw [hk] at g3); exact g3
      refine vx_catch hown [⟨0, 18, 21, 21⟩, ⟨0, 18, 25, 13⟩] ⟨0, 18, 29, 15⟩ [] (by rw [htab]; rfl) (fun z hz => by
          simp only [List.mem_cons, List.not_mem_nil, or_false] at hz
          rcases hz with rfl | rfl
          · exact Or.inr ⟨by decide, "java/lang/IndexOutOfBoundsException", hts (.classLink RL 21 "java/lang/IndexOutOfBoundsException") (by decide +kernel), hX.2 _ (by decide) _ (by decide) (by decide)⟩
          · exact Or.inr ⟨by decide, "java/lang/IllegalArgumentException", hts (.classLink RL 13 "java/lang/IllegalArgumentException") (by decide +kernel), hX.2 _ (by decide) _ (by decide) (by decide)⟩) (by decide) (by decide) (hts (.classLink RL 15 "java/lang/IllegalStateException") (by decide +kernel)) (va_Nw.use rfl (hX.1.2.2.2.2.2.2.2.2.2.2 _ (by decide))) g1 g2 g4 ?_
      refine W.eq (g2 := F0 m 29 ls [.ref q9]) rfl ?_
      refine lv_astore (lv' := [(8, .ref q9), (0, .ref (nm 0 0)), (1, .int p1), (2, .int p2), (3, .int p3), (4, .int p4), (5, .int p5), (6, .int p6), (7, .ref ou)]) hx hb dL_template_29 hl (by decide) rfl (fun ls hl => ?_)
      refine lv_iconst (v := 3) hx hb dL_template_31 (by decide) ?_
      exact xw_iret hx hb hr hlocks hS ⟨by rw [hk], Or.inr ⟨hk0, hQ, _, hO⟩⟩ (Nat.le_of_ble_eq_true rfl) (Nat.le_of_ble_eq_true rfl) dL_template_32
  · have hO := x_kept hO (qf _ (q_lt hO) hou)
    refine lv_i2l hx hb dL_template_16 rfl ?_
    have hPl := hP
    refine x_last hx hb hK hO hS (Or.inr rfl) 0 rfl (by omega) (by decide) dL_template_17 (fun H locs hO z8 q8 hS => ?_)
    have hP := hPl.same (fun q h1 h2 => q8 q (fun e => hou (by rw [← e]; exact h2)))
    refine lv_goto (tgt := 33) hx hb dL_template_18 (by decide) ?_
    refine lv_iconst (v := 0) hx hb dL_template_33 (by decide) ?_
    exact xw_iret hx hb hr hlocks hS ⟨by rw [hk0], Or.inl ⟨hk0, hP, hO⟩⟩ (Nat.le_of_ble_eq_true rfl) (Nat.le_of_ble_eq_true rfl) dL_template_34
set_option maxHeartbeats 4000000 in
set_option maxRecDepth 100000 in
theorem c_L_remove (l : Launch) (hst : l.stackTraces = false) (D : va_G) (cA : Nat → ClassId) (A : Nat → Prop) (z o ou : Nat) (f : Nat → Nat → Int32) (nC nL nV : Nat) (hi : CRi f nC nL nV) (H9 : Heap) (p1 : Int32) (p2 : Int32) (p3 : Int32) (hou : ¬ A ou) (hAn : ∀ q, H9.size ≤ q → A q) : Met l yL_remove wsL_remove (rmK 42 8 1160) (xPX D cA (fun U => lK (fun q => A q ∨ q = ou) z U) [.ref o, .int p1, .int p2, .int p3, .ref ou] (fun H => H = H9 ∧ CS D cA A z o f nC nL nV H ∧ ∃ o0, xL (cA 1) ou 1 o0 H)) (xW (lJ cA ou (kRm (mS f) nL p1 p2 p3) ((nI (putV (mS f) nV (cl p1 p2) (0))).toInt64) (CS D cA A z o ((putS (mS f) nV (cl p1 p2) (0)).2.1) nC nL (putV (mS f) nV (cl p1 p2) (0))) (CS D cA A z o f nC nL nV)) (fun q => A q ∨ q = ou)) 8 1160 (fun q => A q ∨ q = ou) := by
  refine va_MetW (cc := cL_remove) (maxL := 6) (ret := (some .int)) (hh := [(0, 12, 15, 21), (0, 12, 19, 13), (0, 12, 23, 15)]) (by decide) rfl ?_
  intro p e s m args below meth c s₁ B hml hv
  obtain ⟨rfl, ⟨hK, hX⟩, hI⟩ := hv
  have hx := B.exec
  have hb := B.bytes
  have hr := B.returns
  have hts := atoms_spec (ws := wsL_remove) B.pre
  have hown : s.vm.findClass RL = some m.cls := findClass_of_methodNamed B.named
  have hlocks := B.notSynchronized
  have htab := vx_table (x := yL_remove) B (hts (.codeWith yL_remove cL_remove 6 (some .int) [(0, 12, 15, 21), (0, 12, 19, 13), (0, 12, 23, 15)]) List.mem_cons_self)
  have hl := lv_entry ([.ref o, .int p1, .int p2, .int p3, .ref ou]) (n := 6) (Nat.le_of_ble_eq_true rfl)
  rw [lg_entry_eq]
  generalize (lg_sl ([.ref o, .int p1, .int p2, .int p3, .ref ou]) ++ List.replicate (6 - (lg_sl ([.ref o, .int p1, .int p2, .int p3, .ref ou])).length) Slot.unset).toArray = ls at hl ⊢
  have hl : lv_has ls 6 [(0, .ref o), (1, .int p1), (2, .int p2), (3, .int p3), (4, .ref ou)] := hl
  obtain ⟨hH9, ⟨lab, nm, rf, hV, hl9, hIQ, hz, ho⟩, o0, hO⟩ := hI
  subst hH9
  subst hz
  subst ho
  have hS : va_S (fun q => A q ∨ q = ou) s.heap s.heap [] := va_S.rf
  refine lv_aload hx hb dL_remove_0 (lv_at hl 4 rfl) ?_
  refine lv_iconst (v := 0) hx hb dL_remove_2 (by decide) ?_
  refine lv_aload_n hx hb dL_remove_3 rfl (lv_at hl 0 rfl) ?_
  refine lv_iload_n hx hb dL_remove_4 rfl (lv_at hl 1 rfl) ?_
  refine lv_iload_n hx hb dL_remove_5 rfl (lv_at hl 2 rfl) ?_
  refine lv_iload_n hx hb dL_remove_6 rfl (lv_at hl 3 rfl) ?_
  refine xl_call (vx_runV (As := [.int p1, .int p2, .int p3]) (rest := [.int 0, .ref ou]) ⟨hx, hb, hml, hown, hts⟩ (c_X6_remove l hst D cA lab nm rf f nC nL nV hi A hl9 s.heap p1 p2 p3 hAn) (cwV 3 hts gL_remove_X6_remove rfl rfl rfl (by decide +kernel) ⟨Nat.le_of_ble_eq_true rfl, Nat.le_of_ble_eq_true rfl⟩) (xPXV hK pK.blind (fun U hU hW => hX.1.at hS (fun _ h => Or.inl h) hU hW) hV.1 rfl ⟨rfl, hV, hIQ⟩) rfl rfl hl.1 rfl (lv_room (Nat.le_of_ble_eq_true rfl)) dL_remove_7 ⟨Nat.le_of_ble_eq_true rfl, Nat.le_of_ble_eq_true rfl⟩) hS (fun _ _ h => Or.inl h) (fun _ h => Or.inl h) (fun hk0 ce q9 H locs hQ z9 qf hS g1 g2 g3 => ?_) (fun hk0 H locs hP z9 qf hS => ?_)
  · have hO := x_kept hO (qf _ (q_lt hO) hou)
    rcases (kr_kRm (mS f) nL p1 p2 p3).resolve_left hk0 with hk | hk | hk
    · have g4 : s.vm.findClass "java/lang/IndexOutOfBoundsException" = some ce.cls := by (try rw [hk] at g3); exact g3
      refine vx_catch hown [] ⟨0, 12, 15, 21⟩ [⟨0, 12, 19, 13⟩, ⟨0, 12, 23, 15⟩] (by rw [htab]; rfl) (fun z hz => by cases hz) (by decide) (by decide) (hts (.classLink RL 21 "java/lang/IndexOutOfBoundsException") (by decide +kernel)) (va_Nw.use rfl (hX.1.2.2.2.2.2.2.2.2.2.2 _ (by decide))) g1 g2 g4 ?_
      refine W.eq (g2 := F0 m 15 ls [.ref q9]) rfl ?_
      refine lv_astore (lv' := [(5, .ref q9), (0, .ref (nm 0 0)), (1, .int p1), (2, .int p2), (3, .int p3), (4, .ref ou)]) hx hb dL_remove_15 hl (by decide) rfl (fun ls hl => ?_)
      refine lv_iconst (v := 1) hx hb dL_remove_17 (by decide) ?_
      exact xw_iret hx hb hr hlocks hS ⟨by rw [hk], Or.inr ⟨hk0, hQ, _, hO⟩⟩ (Nat.le_of_ble_eq_true rfl) (Nat.le_of_ble_eq_true rfl) dL_remove_18
    · have g4 : s.vm.findClass "java/lang/IllegalArgumentException" = some ce.cls := by (try rw [hk] at g3); exact g3
      refine vx_catch hown [⟨0, 12, 15, 21⟩] ⟨0, 12, 19, 13⟩ [⟨0, 12, 23, 15⟩] (by rw [htab]; rfl) (fun z hz => by
          simp only [List.mem_cons, List.not_mem_nil, or_false] at hz
          subst hz
          exact Or.inr ⟨by decide, "java/lang/IndexOutOfBoundsException", hts (.classLink RL 21 "java/lang/IndexOutOfBoundsException") (by decide +kernel), hX.2 _ (by decide) _ (by decide) (by decide)⟩) (by decide) (by decide) (hts (.classLink RL 13 "java/lang/IllegalArgumentException") (by decide +kernel)) (va_Nw.use rfl (hX.1.2.2.2.2.2.2.2.2.2.2 _ (by decide))) g1 g2 g4 ?_
      refine W.eq (g2 := F0 m 19 ls [.ref q9]) rfl ?_
      refine lv_astore (lv' := [(5, .ref q9), (0, .ref (nm 0 0)), (1, .int p1), (2, .int p2), (3, .int p3), (4, .ref ou)]) hx hb dL_remove_19 hl (by decide) rfl (fun ls hl => ?_)
      refine lv_iconst (v := 2) hx hb dL_remove_21 (by decide) ?_
      exact xw_iret hx hb hr hlocks hS ⟨by rw [hk], Or.inr ⟨hk0, hQ, _, hO⟩⟩ (Nat.le_of_ble_eq_true rfl) (Nat.le_of_ble_eq_true rfl) dL_remove_22
    · have g4 : s.vm.findClass "java/lang/IllegalStateException" = some ce.cls := by (try rw [hk] at g3); exact g3
      refine vx_catch hown [⟨0, 12, 15, 21⟩, ⟨0, 12, 19, 13⟩] ⟨0, 12, 23, 15⟩ [] (by rw [htab]; rfl) (fun z hz => by
          simp only [List.mem_cons, List.not_mem_nil, or_false] at hz
          rcases hz with rfl | rfl
          · exact Or.inr ⟨by decide, "java/lang/IndexOutOfBoundsException", hts (.classLink RL 21 "java/lang/IndexOutOfBoundsException") (by decide +kernel), hX.2 _ (by decide) _ (by decide) (by decide)⟩
          · exact Or.inr ⟨by decide, "java/lang/IllegalArgumentException", hts (.classLink RL 13 "java/lang/IllegalArgumentException") (by decide +kernel), hX.2 _ (by decide) _ (by decide) (by decide)⟩) (by decide) (by decide) (hts (.classLink RL 15 "java/lang/IllegalStateException") (by decide +kernel)) (va_Nw.use rfl (hX.1.2.2.2.2.2.2.2.2.2.2 _ (by decide))) g1 g2 g4 ?_
      refine W.eq (g2 := F0 m 23 ls [.ref q9]) rfl ?_
      refine lv_astore (lv' := [(5, .ref q9), (0, .ref (nm 0 0)), (1, .int p1), (2, .int p2), (3, .int p3), (4, .ref ou)]) hx hb dL_remove_23 hl (by decide) rfl (fun ls hl => ?_)
      refine lv_iconst (v := 3) hx hb dL_remove_25 (by decide) ?_
      exact xw_iret hx hb hr hlocks hS ⟨by rw [hk], Or.inr ⟨hk0, hQ, _, hO⟩⟩ (Nat.le_of_ble_eq_true rfl) (Nat.le_of_ble_eq_true rfl) dL_remove_26
  · have hO := x_kept hO (qf _ (q_lt hO) hou)
    refine lv_i2l hx hb dL_remove_10 rfl ?_
    have hPl := hP
    refine x_last hx hb hK hO hS (Or.inr rfl) 0 rfl (by omega) (by decide) dL_remove_11 (fun H locs hO z8 q8 hS => ?_)
    have hP := hPl.same (fun q h1 h2 => q8 q (fun e => hou (by rw [← e]; exact h2)))
    refine lv_goto (tgt := 27) hx hb dL_remove_12 (by decide) ?_
    refine lv_iconst (v := 0) hx hb dL_remove_27 (by decide) ?_
    exact xw_iret hx hb hr hlocks hS ⟨by rw [hk0], Or.inl ⟨hk0, hP, hO⟩⟩ (Nat.le_of_ble_eq_true rfl) (Nat.le_of_ble_eq_true rfl) dL_remove_28
set_option maxHeartbeats 4000000 in
set_option maxRecDepth 100000 in
theorem c_L_has (l : Launch) (hst : l.stackTraces = false) (D : va_G) (cA : Nat → ClassId) (A : Nat → Prop) (z o ou : Nat) (f : Nat → Nat → Int32) (nC nL nV : Nat) (hi : CRi f nC nL nV) (H9 : Heap) (p1 : Int32) (p2 : Int32) (hou : ¬ A ou) (hAn : ∀ q, H9.size ≤ q → A q) : Met l yL_has wsL_has (rmK 42 3 18) (xPX D cA (fun U => lK (fun q => A q ∨ q = ou) z U) [.ref o, .int p1, .int p2, .ref ou] (fun H => H = H9 ∧ CS D cA A z o f nC nL nV H ∧ ∃ o0, xL (cA 1) ou 1 o0 H)) (xW (lJ cA ou (kCe nL p1 p2) (bL (decide (0 < f 7 (cl p1 p2)))) (CS D cA A z o f nC nL nV) (CS D cA A z o f nC nL nV)) (fun q => A q ∨ q = ou)) 3 18 (fun q => A q ∨ q = ou) := by
  refine va_MetW (cc := cL_has) (maxL := 5) (ret := (some .int)) (hh := [(0, 17, 20, 21)]) (by decide) rfl ?_
  intro p e s m args below meth c s₁ B hml hv
  obtain ⟨rfl, ⟨hK, hX⟩, hI⟩ := hv
  have hx := B.exec
  have hb := B.bytes
  have hr := B.returns
  have hts := atoms_spec (ws := wsL_has) B.pre
  have hown : s.vm.findClass RL = some m.cls := findClass_of_methodNamed B.named
  have hlocks := B.notSynchronized
  have htab := vx_table (x := yL_has) B (hts (.codeWith yL_has cL_has 5 (some .int) [(0, 17, 20, 21)]) List.mem_cons_self)
  have hl := lv_entry ([.ref o, .int p1, .int p2, .ref ou]) (n := 5) (Nat.le_of_ble_eq_true rfl)
  rw [lg_entry_eq]
  generalize (lg_sl ([.ref o, .int p1, .int p2, .ref ou]) ++ List.replicate (5 - (lg_sl ([.ref o, .int p1, .int p2, .ref ou])).length) Slot.unset).toArray = ls at hl ⊢
  have hl : lv_has ls 5 [(0, .ref o), (1, .int p1), (2, .int p2), (3, .ref ou)] := hl
  obtain ⟨hH9, ⟨lab, nm, rf, hV, hl9, hIQ, hz, ho⟩, o0, hO⟩ := hI
  subst hH9
  subst hz
  subst ho
  have hS : va_S (fun q => A q ∨ q = ou) s.heap s.heap [] := va_S.rf
  refine lv_aload_n hx hb dL_has_0 rfl (lv_at hl 3 rfl) ?_
  refine lv_iconst (v := 0) hx hb dL_has_1 (by decide) ?_
  refine lv_aload_n hx hb dL_has_2 rfl (lv_at hl 0 rfl) ?_
  refine lv_iload_n hx hb dL_has_3 rfl (lv_at hl 1 rfl) ?_
  refine lv_iload_n hx hb dL_has_4 rfl (lv_at hl 2 rfl) ?_
  refine xl_call (vx_runV (As := [.int p1, .int p2]) (rest := [.int 0, .ref ou]) ⟨hx, hb, hml, hown, hts⟩ (c_X6_has l hst D cA lab nm rf f nC nL nV hi A hl9 s.heap p1 p2) (cwV 2 hts gL_has_X6_has rfl rfl rfl (by decide +kernel) ⟨Nat.le_of_ble_eq_true rfl, Nat.le_of_ble_eq_true rfl⟩) (xPXV hK pK.blind (fun U hU hW => hX.1.at hS (fun _ h => Or.inl h) hU hW) hV.1 rfl ⟨rfl, hV, hIQ⟩) rfl rfl hl.1 rfl (lv_room (Nat.le_of_ble_eq_true rfl)) dL_has_5 ⟨Nat.le_of_ble_eq_true rfl, Nat.le_of_ble_eq_true rfl⟩) hS (fun _ _ h => Or.inl h) (fun _ h => Or.inl h) (fun hk0 ce q9 H locs hQ z9 qf hS g1 g2 g3 => ?_) (fun hk0 H locs hP z9 qf hS => ?_)
  · have hO := x_kept hO (qf _ (q_lt hO) hou)
    have hk := (kr_kCe nL p1 p2).resolve_left hk0
    have g4 : s.vm.findClass "java/lang/IndexOutOfBoundsException" = some ce.cls := by (try rw [hk] at g3); exact g3
    refine vx_catch hown [] ⟨0, 17, 20, 21⟩ [] (by rw [htab]; rfl) (fun z hz => by cases hz) (by decide) (by decide) (hts (.classLink RL 21 "java/lang/IndexOutOfBoundsException") (by decide +kernel)) (va_Nw.use rfl (hX.1.2.2.2.2.2.2.2.2.2.2 _ (by decide))) g1 g2 g4 ?_
    refine W.eq (g2 := F0 m 20 ls [.ref q9]) rfl ?_
    refine lv_astore (lv' := [(4, .ref q9), (0, .ref (nm 0 0)), (1, .int p1), (2, .int p2), (3, .ref ou)]) hx hb dL_has_20 hl (by decide) rfl (fun ls hl => ?_)
    refine lv_iconst (v := 1) hx hb dL_has_22 (by decide) ?_
    exact xw_iret hx hb hr hlocks hS ⟨by rw [hk], Or.inr ⟨hk0, hQ, _, hO⟩⟩ (Nat.le_of_ble_eq_true rfl) (Nat.le_of_ble_eq_true rfl) dL_has_23
  · have hO := x_kept hO (qf _ (q_lt hO) hou)
    refine xb_eq (tgt := 15) hx hb dL_has_8 (by decide) (fun c_1 => ?_) (fun c_1 => ?_)
    · refine lv_lconst (v := 0) hx hb dL_has_15 (by decide) ?_
      have hPl := hP
      refine x_last hx hb hK hO hS (Or.inr rfl) 0 rfl (by omega) (by decide) dL_has_16 (fun H locs hO z8 q8 hS => ?_)
      have hP := hPl.same (fun q h1 h2 => q8 q (fun e => hou (by rw [← e]; exact h2)))
      refine lv_goto (tgt := 24) hx hb dL_has_17 (by decide) ?_
      refine lv_iconst (v := 0) hx hb dL_has_24 (by decide) ?_
      exact xw_iret hx hb hr hlocks hS ⟨by rw [hk0], Or.inl ⟨hk0, hP, (by unfold bL; rw [c_1]; exact hO)⟩⟩ (Nat.le_of_ble_eq_true rfl) (Nat.le_of_ble_eq_true rfl) dL_has_25
    · refine lv_lconst (v := 1) hx hb dL_has_11 (by decide) ?_
      refine lv_goto (tgt := 16) hx hb dL_has_12 (by decide) ?_
      have hPl := hP
      refine x_last hx hb hK hO hS (Or.inr rfl) 0 rfl (by omega) (by decide) dL_has_16 (fun H locs hO z8 q8 hS => ?_)
      have hP := hPl.same (fun q h1 h2 => q8 q (fun e => hou (by rw [← e]; exact h2)))
      refine lv_goto (tgt := 24) hx hb dL_has_17 (by decide) ?_
      refine lv_iconst (v := 0) hx hb dL_has_24 (by decide) ?_
      exact xw_iret hx hb hr hlocks hS ⟨by rw [hk0], Or.inl ⟨hk0, hP, (by unfold bL; rw [c_1]; exact hO)⟩⟩ (Nat.le_of_ble_eq_true rfl) (Nat.le_of_ble_eq_true rfl) dL_has_25
set_option maxHeartbeats 4000000 in
set_option maxRecDepth 100000 in
theorem c_L_roll (l : Launch) (hst : l.stackTraces = false) (D : va_G) (cA : Nat → ClassId) (A : Nat → Prop) (z o : Nat) (f : Nat → Nat → Int32) (nC nL nV : Nat) (hi : CRi f nC nL nV) (H9 : Heap) (p1 : Int32) (p2 : Int32) (p3 : Int32) (p4 : Int32) (hAn : ∀ q, H9.size ≤ q → A q) : Met l yL_roll wsL_roll (rmK 42 5 24) (xPX D cA (fun U => lK (fun q => A q ∨ False) z U) [.ref o, .int p1, .int p2, .int p3, .int p4] (fun H => H = H9 ∧ CS D cA A z o f nC nL nV H)) (xW (lJ0 (wrF (mS f) nL p1 p2 (okB p3) p4 false) (CS D cA A z o ((rlS (mS f) (cl p1 p2) (enc p3 (-1) (-1))).2.1) nC nL nV) (CS D cA A z o f nC nL nV)) (fun q => A q ∨ False)) 5 24 (fun q => A q ∨ False) := by
  refine va_MetW (cc := cL_roll) (maxL := 6) (ret := (some .int)) (hh := [(0, 9, 12, 21), (0, 9, 16, 13), (0, 9, 20, 15)]) (by decide) rfl ?_
  intro p e s m args below meth c s₁ B hml hv
  obtain ⟨rfl, ⟨hK, hX⟩, hI⟩ := hv
  have hx := B.exec
  have hb := B.bytes
  have hr := B.returns
  have hts := atoms_spec (ws := wsL_roll) B.pre
  have hown : s.vm.findClass RL = some m.cls := findClass_of_methodNamed B.named
  have hlocks := B.notSynchronized
  have htab := vx_table (x := yL_roll) B (hts (.codeWith yL_roll cL_roll 6 (some .int) [(0, 9, 12, 21), (0, 9, 16, 13), (0, 9, 20, 15)]) List.mem_cons_self)
  have hl := lv_entry ([.ref o, .int p1, .int p2, .int p3, .int p4]) (n := 6) (Nat.le_of_ble_eq_true rfl)
  rw [lg_entry_eq]
  generalize (lg_sl ([.ref o, .int p1, .int p2, .int p3, .int p4]) ++ List.replicate (6 - (lg_sl ([.ref o, .int p1, .int p2, .int p3, .int p4])).length) Slot.unset).toArray = ls at hl ⊢
  have hl : lv_has ls 6 [(0, .ref o), (1, .int p1), (2, .int p2), (3, .int p3), (4, .int p4)] := hl
  obtain ⟨hH9, ⟨lab, nm, rf, hV, hl9, hIQ, hz, ho⟩⟩ := hI
  subst hH9
  subst hz
  subst ho
  have hS : va_S (fun q => A q ∨ False) s.heap s.heap [] := va_S.rf
  refine lv_aload_n hx hb dL_roll_0 rfl (lv_at hl 0 rfl) ?_
  refine lv_iload_n hx hb dL_roll_1 rfl (lv_at hl 1 rfl) ?_
  refine lv_iload_n hx hb dL_roll_2 rfl (lv_at hl 2 rfl) ?_
  refine lv_iload_n hx hb dL_roll_3 rfl (lv_at hl 3 rfl) ?_
  refine lv_iload hx hb dL_roll_4 (lv_at hl 4 rfl) ?_
  refine xl_call (vx_runV (As := [.int p1, .int p2, .int p3, .int p4]) (rest := []) ⟨hx, hb, hml, hown, hts⟩ (c_X6_roll l hst D cA lab nm rf f nC nL nV hi A hl9 s.heap p1 p2 p3 p4 hAn) (cwV 4 hts gL_roll_X6_roll rfl rfl rfl (by decide +kernel) ⟨Nat.le_of_ble_eq_true rfl, Nat.le_of_ble_eq_true rfl⟩) (xPXV hK pK.blind (fun U hU hW => hX.1.at hS (fun _ h => Or.inl h) hU hW) hV.1 rfl ⟨rfl, hV, hIQ⟩) rfl rfl hl.1 rfl (lv_room (Nat.le_of_ble_eq_true rfl)) dL_roll_6 ⟨Nat.le_of_ble_eq_true rfl, Nat.le_of_ble_eq_true rfl⟩) hS (fun _ _ h => Or.inl h) (fun _ h => Or.inl h) (fun hk0 ce q9 H locs hQ z9 qf hS g1 g2 g3 => ?_) (fun hk0 H locs hP z9 qf hS => ?_)
  · skip
    rcases (kr_wrF (mS f) nL p1 p2 (okB p3) p4 false).resolve_left hk0 with hk | hk | hk
    · have g4 : s.vm.findClass "java/lang/IndexOutOfBoundsException" = some ce.cls := by (try rw [hk] at g3); exact g3
      refine vx_catch hown [] ⟨0, 9, 12, 21⟩ [⟨0, 9, 16, 13⟩, ⟨0, 9, 20, 15⟩] (by rw [htab]; rfl) (fun z hz => by cases hz) (by decide) (by decide) (hts (.classLink RL 21 "java/lang/IndexOutOfBoundsException") (by decide +kernel)) (va_Nw.use rfl (hX.1.2.2.2.2.2.2.2.2.2.2 _ (by decide))) g1 g2 g4 ?_
      refine W.eq (g2 := F0 m 12 ls [.ref q9]) rfl ?_
      refine lv_astore (lv' := [(5, .ref q9), (0, .ref (nm 0 0)), (1, .int p1), (2, .int p2), (3, .int p3), (4, .int p4)]) hx hb dL_roll_12 hl (by decide) rfl (fun ls hl => ?_)
      refine lv_iconst (v := 1) hx hb dL_roll_14 (by decide) ?_
      exact xw_iret hx hb hr hlocks hS ⟨by rw [hk], Or.inr ⟨hk0, hQ⟩⟩ (Nat.le_of_ble_eq_true rfl) (Nat.le_of_ble_eq_true rfl) dL_roll_15
    · have g4 : s.vm.findClass "java/lang/IllegalArgumentException" = some ce.cls := by (try rw [hk] at g3); exact g3
      refine vx_catch hown [⟨0, 9, 12, 21⟩] ⟨0, 9, 16, 13⟩ [⟨0, 9, 20, 15⟩] (by rw [htab]; rfl) (fun z hz => by
          simp only [List.mem_cons, List.not_mem_nil, or_false] at hz
          subst hz
          exact Or.inr ⟨by decide, "java/lang/IndexOutOfBoundsException", hts (.classLink RL 21 "java/lang/IndexOutOfBoundsException") (by decide +kernel), hX.2 _ (by decide) _ (by decide) (by decide)⟩) (by decide) (by decide) (hts (.classLink RL 13 "java/lang/IllegalArgumentException") (by decide +kernel)) (va_Nw.use rfl (hX.1.2.2.2.2.2.2.2.2.2.2 _ (by decide))) g1 g2 g4 ?_
      refine W.eq (g2 := F0 m 16 ls [.ref q9]) rfl ?_
      refine lv_astore (lv' := [(5, .ref q9), (0, .ref (nm 0 0)), (1, .int p1), (2, .int p2), (3, .int p3), (4, .int p4)]) hx hb dL_roll_16 hl (by decide) rfl (fun ls hl => ?_)
      refine lv_iconst (v := 2) hx hb dL_roll_18 (by decide) ?_
      exact xw_iret hx hb hr hlocks hS ⟨by rw [hk], Or.inr ⟨hk0, hQ⟩⟩ (Nat.le_of_ble_eq_true rfl) (Nat.le_of_ble_eq_true rfl) dL_roll_19
    · have g4 : s.vm.findClass "java/lang/IllegalStateException" = some ce.cls := by (try rw [hk] at g3); exact g3
      refine vx_catch hown [⟨0, 9, 12, 21⟩, ⟨0, 9, 16, 13⟩] ⟨0, 9, 20, 15⟩ [] (by rw [htab]; rfl) (fun z hz => by
          simp only [List.mem_cons, List.not_mem_nil, or_false] at hz
          rcases hz with rfl | rfl
          · exact Or.inr ⟨by decide, "java/lang/IndexOutOfBoundsException", hts (.classLink RL 21 "java/lang/IndexOutOfBoundsException") (by decide +kernel), hX.2 _ (by decide) _ (by decide) (by decide)⟩
          · exact Or.inr ⟨by decide, "java/lang/IllegalArgumentException", hts (.classLink RL 13 "java/lang/IllegalArgumentException") (by decide +kernel), hX.2 _ (by decide) _ (by decide) (by decide)⟩) (by decide) (by decide) (hts (.classLink RL 15 "java/lang/IllegalStateException") (by decide +kernel)) (va_Nw.use rfl (hX.1.2.2.2.2.2.2.2.2.2.2 _ (by decide))) g1 g2 g4 ?_
      refine W.eq (g2 := F0 m 20 ls [.ref q9]) rfl ?_
      refine lv_astore (lv' := [(5, .ref q9), (0, .ref (nm 0 0)), (1, .int p1), (2, .int p2), (3, .int p3), (4, .int p4)]) hx hb dL_roll_20 hl (by decide) rfl (fun ls hl => ?_)
      refine lv_iconst (v := 3) hx hb dL_roll_22 (by decide) ?_
      exact xw_iret hx hb hr hlocks hS ⟨by rw [hk], Or.inr ⟨hk0, hQ⟩⟩ (Nat.le_of_ble_eq_true rfl) (Nat.le_of_ble_eq_true rfl) dL_roll_23
  · skip
    refine lv_goto (tgt := 24) hx hb dL_roll_9 (by decide) ?_
    refine lv_iconst (v := 0) hx hb dL_roll_24 (by decide) ?_
    exact xw_iret hx hb hr hlocks hS ⟨by rw [hk0], Or.inl ⟨hk0, hP⟩⟩ (Nat.le_of_ble_eq_true rfl) (Nat.le_of_ble_eq_true rfl) dL_roll_25
set_option maxHeartbeats 4000000 in
set_option maxRecDepth 100000 in
theorem c_L_rollTemplate (l : Launch) (hst : l.stackTraces = false) (D : va_G) (cA : Nat → ClassId) (A : Nat → Prop) (z o : Nat) (f : Nat → Nat → Int32) (nC nL nV : Nat) (hi : CRi f nC nL nV) (H9 : Heap) (p1 : Int32) (p2 : Int32) (p3 : Int32) (p4 : Int32) (p5 : Int32) (p6 : Int32) (hAn : ∀ q, H9.size ≤ q → A q) : Met l yL_rollTemplate wsL_rollTemplate (rmK 42 5 24) (xPX D cA (fun U => lK (fun q => A q ∨ False) z U) [.ref o, .int p1, .int p2, .int p3, .int p4, .int p5, .int p6] (fun H => H = H9 ∧ CS D cA A z o f nC nL nV H)) (xW (lJ0 (wrF (mS f) nL p1 p2 (okB p3 && okT p4 p5) p6 false) (CS D cA A z o ((rlS (mS f) (cl p1 p2) (enc p3 p4 p5)).2.1) nC nL nV) (CS D cA A z o f nC nL nV)) (fun q => A q ∨ False)) 5 24 (fun q => A q ∨ False) := by
  refine va_MetW (cc := cL_rollTemplate) (maxL := 8) (ret := (some .int)) (hh := [(0, 13, 16, 21), (0, 13, 20, 13), (0, 13, 24, 15)]) (by decide) rfl ?_
  intro p e s m args below meth c s₁ B hml hv
  obtain ⟨rfl, ⟨hK, hX⟩, hI⟩ := hv
  have hx := B.exec
  have hb := B.bytes
  have hr := B.returns
  have hts := atoms_spec (ws := wsL_rollTemplate) B.pre
  have hown : s.vm.findClass RL = some m.cls := findClass_of_methodNamed B.named
  have hlocks := B.notSynchronized
  have htab := vx_table (x := yL_rollTemplate) B (hts (.codeWith yL_rollTemplate cL_rollTemplate 8 (some .int) [(0, 13, 16, 21), (0, 13, 20, 13), (0, 13, 24, 15)]) List.mem_cons_self)
  have hl := lv_entry ([.ref o, .int p1, .int p2, .int p3, .int p4, .int p5, .int p6]) (n := 8) (Nat.le_of_ble_eq_true rfl)
  rw [lg_entry_eq]
  generalize (lg_sl ([.ref o, .int p1, .int p2, .int p3, .int p4, .int p5, .int p6]) ++ List.replicate (8 - (lg_sl ([.ref o, .int p1, .int p2, .int p3, .int p4, .int p5, .int p6])).length) Slot.unset).toArray = ls at hl ⊢
  have hl : lv_has ls 8 [(0, .ref o), (1, .int p1), (2, .int p2), (3, .int p3), (4, .int p4), (5, .int p5), (6, .int p6)] := hl
  obtain ⟨hH9, ⟨lab, nm, rf, hV, hl9, hIQ, hz, ho⟩⟩ := hI
  subst hH9
  subst hz
  subst ho
  have hS : va_S (fun q => A q ∨ False) s.heap s.heap [] := va_S.rf
  refine lv_aload_n hx hb dL_rollTemplate_0 rfl (lv_at hl 0 rfl) ?_
  refine lv_iload_n hx hb dL_rollTemplate_1 rfl (lv_at hl 1 rfl) ?_
  refine lv_iload_n hx hb dL_rollTemplate_2 rfl (lv_at hl 2 rfl) ?_
  refine lv_iload_n hx hb dL_rollTemplate_3 rfl (lv_at hl 3 rfl) ?_
  refine lv_iload hx hb dL_rollTemplate_4 (lv_at hl 4 rfl) ?_
  refine lv_iload hx hb dL_rollTemplate_6 (lv_at hl 5 rfl) ?_
  refine lv_iload hx hb dL_rollTemplate_8 (lv_at hl 6 rfl) ?_
  refine xl_call (vx_runV (As := [.int p1, .int p2, .int p3, .int p4, .int p5, .int p6]) (rest := []) ⟨hx, hb, hml, hown, hts⟩ (c_X6_rollTemplate l hst D cA lab nm rf f nC nL nV hi A hl9 s.heap p1 p2 p3 p4 p5 p6 hAn) (cwV 6 hts gL_rollTemplate_X6_rollTemplate rfl rfl rfl (by decide +kernel) ⟨Nat.le_of_ble_eq_true rfl, Nat.le_of_ble_eq_true rfl⟩) (xPXV hK pK.blind (fun U hU hW => hX.1.at hS (fun _ h => Or.inl h) hU hW) hV.1 rfl ⟨rfl, hV, hIQ⟩) rfl rfl hl.1 rfl (lv_room (Nat.le_of_ble_eq_true rfl)) dL_rollTemplate_10 ⟨Nat.le_of_ble_eq_true rfl, Nat.le_of_ble_eq_true rfl⟩) hS (fun _ _ h => Or.inl h) (fun _ h => Or.inl h) (fun hk0 ce q9 H locs hQ z9 qf hS g1 g2 g3 => ?_) (fun hk0 H locs hP z9 qf hS => ?_)
  · skip
    rcases (kr_wrF (mS f) nL p1 p2 (okB p3 && okT p4 p5) p6 false).resolve_left hk0 with hk | hk | hk
    · have g4 : s.vm.findClass "java/lang/IndexOutOfBoundsException" = some ce.cls := by (try rw [hk] at g3); exact g3
      refine vx_catch hown [] ⟨0, 13, 16, 21⟩ [⟨0, 13, 20, 13⟩, ⟨0, 13, 24, 15⟩] (by rw [htab]; rfl) (fun z hz => by cases hz) (by decide) (by decide) (hts (.classLink RL 21 "java/lang/IndexOutOfBoundsException") (by decide +kernel)) (va_Nw.use rfl (hX.1.2.2.2.2.2.2.2.2.2.2 _ (by decide))) g1 g2 g4 ?_
      refine W.eq (g2 := F0 m 16 ls [.ref q9]) rfl ?_
      refine lv_astore (lv' := [(7, .ref q9), (0, .ref (nm 0 0)), (1, .int p1), (2, .int p2), (3, .int p3), (4, .int p4), (5, .int p5), (6, .int p6)]) hx hb dL_rollTemplate_16 hl (by decide) rfl (fun ls hl => ?_)
      refine lv_iconst (v := 1) hx hb dL_rollTemplate_18 (by decide) ?_
      exact xw_iret hx hb hr hlocks hS ⟨by rw [hk], Or.inr ⟨hk0, hQ⟩⟩ (Nat.le_of_ble_eq_true rfl) (Nat.le_of_ble_eq_true rfl) dL_rollTemplate_19
    · have g4 : s.vm.findClass "java/lang/IllegalArgumentException" = some ce.cls := by (try rw [hk] at g3); exact g3
      refine vx_catch hown [⟨0, 13, 16, 21⟩] ⟨0, 13, 20, 13⟩ [⟨0, 13, 24, 15⟩] (by rw [htab]; rfl) (fun z hz => by
          simp only [List.mem_cons, List.not_mem_nil, or_false] at hz
          subst hz
          exact Or.inr ⟨by decide, "java/lang/IndexOutOfBoundsException", hts (.classLink RL 21 "java/lang/IndexOutOfBoundsException") (by decide +kernel), hX.2 _ (by decide) _ (by decide) (by decide)⟩) (by decide) (by decide) (hts (.classLink RL 13 "java/lang/IllegalArgumentException") (by decide +kernel)) (va_Nw.use rfl (hX.1.2.2.2.2.2.2.2.2.2.2 _ (by decide))) g1 g2 g4 ?_
      refine W.eq (g2 := F0 m 20 ls [.ref q9]) rfl ?_
      refine lv_astore (lv' := [(7, .ref q9), (0, .ref (nm 0 0)), (1, .int p1), (2, .int p2), (3, .int p3), (4, .int p4), (5, .int p5), (6, .int p6)]) hx hb dL_rollTemplate_20 hl (by decide) rfl (fun ls hl => ?_)
      refine lv_iconst (v := 2) hx hb dL_rollTemplate_22 (by decide) ?_
      exact xw_iret hx hb hr hlocks hS ⟨by rw [hk], Or.inr ⟨hk0, hQ⟩⟩ (Nat.le_of_ble_eq_true rfl) (Nat.le_of_ble_eq_true rfl) dL_rollTemplate_23
    · have g4 : s.vm.findClass "java/lang/IllegalStateException" = some ce.cls := by (try rw [hk] at g3); exact g3
      refine vx_catch hown [⟨0, 13, 16, 21⟩, ⟨0, 13, 20, 13⟩] ⟨0, 13, 24, 15⟩ [] (by rw [htab]; rfl) (fun z hz => by
          simp only [List.mem_cons, List.not_mem_nil, or_false] at hz
          rcases hz with rfl | rfl
          · exact Or.inr ⟨by decide, "java/lang/IndexOutOfBoundsException", hts (.classLink RL 21 "java/lang/IndexOutOfBoundsException") (by decide +kernel), hX.2 _ (by decide) _ (by decide) (by decide)⟩
          · exact Or.inr ⟨by decide, "java/lang/IllegalArgumentException", hts (.classLink RL 13 "java/lang/IllegalArgumentException") (by decide +kernel), hX.2 _ (by decide) _ (by decide) (by decide)⟩) (by decide) (by decide) (hts (.classLink RL 15 "java/lang/IllegalStateException") (by decide +kernel)) (va_Nw.use rfl (hX.1.2.2.2.2.2.2.2.2.2.2 _ (by decide))) g1 g2 g4 ?_
      refine W.eq (g2 := F0 m 24 ls [.ref q9]) rfl ?_
      refine lv_astore (lv' := [(7, .ref q9), (0, .ref (nm 0 0)), (1, .int p1), (2, .int p2), (3, .int p3), (4, .int p4), (5, .int p5), (6, .int p6)]) hx hb dL_rollTemplate_24 hl (by decide) rfl (fun ls hl => ?_)
      refine lv_iconst (v := 3) hx hb dL_rollTemplate_26 (by decide) ?_
      exact xw_iret hx hb hr hlocks hS ⟨by rw [hk], Or.inr ⟨hk0, hQ⟩⟩ (Nat.le_of_ble_eq_true rfl) (Nat.le_of_ble_eq_true rfl) dL_rollTemplate_27
  · skip
    refine lv_goto (tgt := 28) hx hb dL_rollTemplate_13 (by decide) ?_
    refine lv_iconst (v := 0) hx hb dL_rollTemplate_28 (by decide) ?_
    exact xw_iret hx hb hr hlocks hS ⟨by rw [hk0], Or.inl ⟨hk0, hP⟩⟩ (Nat.le_of_ble_eq_true rfl) (Nat.le_of_ble_eq_true rfl) dL_rollTemplate_29
set_option maxHeartbeats 4000000 in
set_option maxRecDepth 100000 in
theorem c_L_advance (l : Launch) (hst : l.stackTraces = false) (D : va_G) (cA : Nat → ClassId) (A : Nat → Prop) (z o ou : Nat) (f : Nat → Nat → Int32) (nC nL nV : Nat) (hi : CRi f nC nL nV) (H9 : Heap) (p1 : Int32) (p2 : Int32) (p3 : Int32) (p4 : Int32) (hou : ¬ A ou) (hAn : ∀ q, H9.size ≤ q → A q) : Met l yL_advance wsL_advance (rmK 42 8 1160) (xPX D cA (fun U => lK (fun q => A q ∨ q = ou) z U) [.ref o, .int p1, .int p2, .int p3, .int p4, .ref ou] (fun H => H = H9 ∧ CS D cA A z o f nC nL nV H ∧ ∃ o0, xL (cA 1) ou 1 o0 H)) (xW (lJ cA ou (kAd (mS f) nL p1 p2 p3 p4) ((nI (adV (mS f) nC (ix p1) (cl p1 p2) p3)).toInt64) (CS D cA A z o ((adS (mS f) nV (cl p1 p2) p3).2.1) nC nL (adN f nV (cl p1 p2) p3)) (CS D cA A z o f nC nL nV)) (fun q => A q ∨ q = ou)) 8 1160 (fun q => A q ∨ q = ou) := by
  refine va_MetW (cc := cL_advance) (maxL := 7) (ret := (some .int)) (hh := [(0, 14, 17, 21), (0, 14, 21, 13), (0, 14, 25, 15)]) (by decide) rfl ?_
  intro p e s m args below meth c s₁ B hml hv
  obtain ⟨rfl, ⟨hK, hX⟩, hI⟩ := hv
  have hx := B.exec
  have hb := B.bytes
  have hr := B.returns
  have hts := atoms_spec (ws := wsL_advance) B.pre
  have hown : s.vm.findClass RL = some m.cls := findClass_of_methodNamed B.named
  have hlocks := B.notSynchronized
  have htab := vx_table (x := yL_advance) B (hts (.codeWith yL_advance cL_advance 7 (some .int) [(0, 14, 17, 21), (0, 14, 21, 13), (0, 14, 25, 15)]) List.mem_cons_self)
  have hl := lv_entry ([.ref o, .int p1, .int p2, .int p3, .int p4, .ref ou]) (n := 7) (Nat.le_of_ble_eq_true rfl)
  rw [lg_entry_eq]
  generalize (lg_sl ([.ref o, .int p1, .int p2, .int p3, .int p4, .ref ou]) ++ List.replicate (7 - (lg_sl ([.ref o, .int p1, .int p2, .int p3, .int p4, .ref ou])).length) Slot.unset).toArray = ls at hl ⊢
  have hl : lv_has ls 7 [(0, .ref o), (1, .int p1), (2, .int p2), (3, .int p3), (4, .int p4), (5, .ref ou)] := hl
  obtain ⟨hH9, ⟨lab, nm, rf, hV, hl9, hIQ, hz, ho⟩, o0, hO⟩ := hI
  subst hH9
  subst hz
  subst ho
  have hS : va_S (fun q => A q ∨ q = ou) s.heap s.heap [] := va_S.rf
  refine lv_aload hx hb dL_advance_0 (lv_at hl 5 rfl) ?_
  refine lv_iconst (v := 0) hx hb dL_advance_2 (by decide) ?_
  refine lv_aload_n hx hb dL_advance_3 rfl (lv_at hl 0 rfl) ?_
  refine lv_iload_n hx hb dL_advance_4 rfl (lv_at hl 1 rfl) ?_
  refine lv_iload_n hx hb dL_advance_5 rfl (lv_at hl 2 rfl) ?_
  refine lv_iload_n hx hb dL_advance_6 rfl (lv_at hl 3 rfl) ?_
  refine lv_iload hx hb dL_advance_7 (lv_at hl 4 rfl) ?_
  refine xl_call (vx_runV (As := [.int p1, .int p2, .int p3, .int p4]) (rest := [.int 0, .ref ou]) ⟨hx, hb, hml, hown, hts⟩ (c_X6_advance l hst D cA lab nm rf f nC nL nV hi A hl9 s.heap p1 p2 p3 p4 hAn) (cwV 4 hts gL_advance_X6_advance rfl rfl rfl (by decide +kernel) ⟨Nat.le_of_ble_eq_true rfl, Nat.le_of_ble_eq_true rfl⟩) (xPXV hK pK.blind (fun U hU hW => hX.1.at hS (fun _ h => Or.inl h) hU hW) hV.1 rfl ⟨rfl, hV, hIQ⟩) rfl rfl hl.1 rfl (lv_room (Nat.le_of_ble_eq_true rfl)) dL_advance_9 ⟨Nat.le_of_ble_eq_true rfl, Nat.le_of_ble_eq_true rfl⟩) hS (fun _ _ h => Or.inl h) (fun _ h => Or.inl h) (fun hk0 ce q9 H locs hQ z9 qf hS g1 g2 g3 => ?_) (fun hk0 H locs hP z9 qf hS => ?_)
  · have hO := x_kept hO (qf _ (q_lt hO) hou)
    rcases (kr_kAd (mS f) nL p1 p2 p3 p4).resolve_left hk0 with hk | hk | hk
    · have g4 : s.vm.findClass "java/lang/IndexOutOfBoundsException" = some ce.cls := by (try rw [hk] at g3); exact g3
      refine vx_catch hown [] ⟨0, 14, 17, 21⟩ [⟨0, 14, 21, 13⟩, ⟨0, 14, 25, 15⟩] (by rw [htab]; rfl) (fun z hz => by cases hz) (by decide) (by decide) (hts (.classLink RL 21 "java/lang/IndexOutOfBoundsException") (by decide +kernel)) (va_Nw.use rfl (hX.1.2.2.2.2.2.2.2.2.2.2 _ (by decide))) g1 g2 g4 ?_
      refine W.eq (g2 := F0 m 17 ls [.ref q9]) rfl ?_
      refine lv_astore (lv' := [(6, .ref q9), (0, .ref (nm 0 0)), (1, .int p1), (2, .int p2), (3, .int p3), (4, .int p4), (5, .ref ou)]) hx hb dL_advance_17 hl (by decide) rfl (fun ls hl => ?_)
      refine lv_iconst (v := 1) hx hb dL_advance_19 (by decide) ?_
      exact xw_iret hx hb hr hlocks hS ⟨by rw [hk], Or.inr ⟨hk0, hQ, _, hO⟩⟩ (Nat.le_of_ble_eq_true rfl) (Nat.le_of_ble_eq_true rfl) dL_advance_20
    · have g4 : s.vm.findClass "java/lang/IllegalArgumentException" = some ce.cls := by (try rw [hk] at g3); exact g3
      refine vx_catch hown [⟨0, 14, 17, 21⟩] ⟨0, 14, 21, 13⟩ [⟨0, 14, 25, 15⟩] (by rw [htab]; rfl) (fun z hz => by
          simp only [List.mem_cons, List.not_mem_nil, or_false] at hz
          subst hz
          exact Or.inr ⟨by decide, "java/lang/IndexOutOfBoundsException", hts (.classLink RL 21 "java/lang/IndexOutOfBoundsException") (by decide +kernel), hX.2 _ (by decide) _ (by decide) (by decide)⟩) (by decide) (by decide) (hts (.classLink RL 13 "java/lang/IllegalArgumentException") (by decide +kernel)) (va_Nw.use rfl (hX.1.2.2.2.2.2.2.2.2.2.2 _ (by decide))) g1 g2 g4 ?_
      refine W.eq (g2 := F0 m 21 ls [.ref q9]) rfl ?_
      refine lv_astore (lv' := [(6, .ref q9), (0, .ref (nm 0 0)), (1, .int p1), (2, .int p2), (3, .int p3), (4, .int p4), (5, .ref ou)]) hx hb dL_advance_21 hl (by decide) rfl (fun ls hl => ?_)
      refine lv_iconst (v := 2) hx hb dL_advance_23 (by decide) ?_
      exact xw_iret hx hb hr hlocks hS ⟨by rw [hk], Or.inr ⟨hk0, hQ, _, hO⟩⟩ (Nat.le_of_ble_eq_true rfl) (Nat.le_of_ble_eq_true rfl) dL_advance_24
    · have g4 : s.vm.findClass "java/lang/IllegalStateException" = some ce.cls := by (try rw [hk] at g3); exact g3
      refine vx_catch hown [⟨0, 14, 17, 21⟩, ⟨0, 14, 21, 13⟩] ⟨0, 14, 25, 15⟩ [] (by rw [htab]; rfl) (fun z hz => by
          simp only [List.mem_cons, List.not_mem_nil, or_false] at hz
          rcases hz with rfl | rfl
          · exact Or.inr ⟨by decide, "java/lang/IndexOutOfBoundsException", hts (.classLink RL 21 "java/lang/IndexOutOfBoundsException") (by decide +kernel), hX.2 _ (by decide) _ (by decide) (by decide)⟩
          · exact Or.inr ⟨by decide, "java/lang/IllegalArgumentException", hts (.classLink RL 13 "java/lang/IllegalArgumentException") (by decide +kernel), hX.2 _ (by decide) _ (by decide) (by decide)⟩) (by decide) (by decide) (hts (.classLink RL 15 "java/lang/IllegalStateException") (by decide +kernel)) (va_Nw.use rfl (hX.1.2.2.2.2.2.2.2.2.2.2 _ (by decide))) g1 g2 g4 ?_
      refine W.eq (g2 := F0 m 25 ls [.ref q9]) rfl ?_
      refine lv_astore (lv' := [(6, .ref q9), (0, .ref (nm 0 0)), (1, .int p1), (2, .int p2), (3, .int p3), (4, .int p4), (5, .ref ou)]) hx hb dL_advance_25 hl (by decide) rfl (fun ls hl => ?_)
      refine lv_iconst (v := 3) hx hb dL_advance_27 (by decide) ?_
      exact xw_iret hx hb hr hlocks hS ⟨by rw [hk], Or.inr ⟨hk0, hQ, _, hO⟩⟩ (Nat.le_of_ble_eq_true rfl) (Nat.le_of_ble_eq_true rfl) dL_advance_28
  · have hO := x_kept hO (qf _ (q_lt hO) hou)
    refine lv_i2l hx hb dL_advance_12 rfl ?_
    have hPl := hP
    refine x_last hx hb hK hO hS (Or.inr rfl) 0 rfl (by omega) (by decide) dL_advance_13 (fun H locs hO z8 q8 hS => ?_)
    have hP := hPl.same (fun q h1 h2 => q8 q (fun e => hou (by rw [← e]; exact h2)))
    refine lv_goto (tgt := 29) hx hb dL_advance_14 (by decide) ?_
    refine lv_iconst (v := 0) hx hb dL_advance_29 (by decide) ?_
    exact xw_iret hx hb hr hlocks hS ⟨by rw [hk0], Or.inl ⟨hk0, hP, hO⟩⟩ (Nat.le_of_ble_eq_true rfl) (Nat.le_of_ble_eq_true rfl) dL_advance_30
set_option maxHeartbeats 4000000 in
set_option maxRecDepth 100000 in
theorem c_L_abort (l : Launch) (hst : l.stackTraces = false) (D : va_G) (cA : Nat → ClassId) (A : Nat → Prop) (z o ou : Nat) (f : Nat → Nat → Int32) (nC nL nV : Nat) (hi : CRi f nC nL nV) (H9 : Heap) (p1 : Int32) (p2 : Int32) (p3 : Int32) (hou : ¬ A ou) (hAn : ∀ q, H9.size ≤ q → A q) : Met l yL_abort wsL_abort (rmK 42 3 18) (xPX D cA (fun U => lK (fun q => A q ∨ q = ou) z U) [.ref o, .int p1, .int p2, .int p3, .ref ou] (fun H => H = H9 ∧ CS D cA A z o f nC nL nV H ∧ ∃ o0, xL (cA 1) ou 1 o0 H)) (xW (lJ cA ou (wrF (mS f) nL p1 p2 true p3 true) ((f 10 (cl p1 p2)).toInt64) (CS D cA A z o ((sa (mS f) 10 (cl p1 p2) (-1)).2.1) nC nL nV) (CS D cA A z o f nC nL nV)) (fun q => A q ∨ q = ou)) 3 18 (fun q => A q ∨ q = ou) := by
  refine va_MetW (cc := cL_abort) (maxL := 6) (ret := (some .int)) (hh := [(0, 12, 15, 21), (0, 12, 19, 13), (0, 12, 23, 15)]) (by decide) rfl ?_
  intro p e s m args below meth c s₁ B hml hv
  obtain ⟨rfl, ⟨hK, hX⟩, hI⟩ := hv
  have hx := B.exec
  have hb := B.bytes
  have hr := B.returns
  have hts := atoms_spec (ws := wsL_abort) B.pre
  have hown : s.vm.findClass RL = some m.cls := findClass_of_methodNamed B.named
  have hlocks := B.notSynchronized
  have htab := vx_table (x := yL_abort) B (hts (.codeWith yL_abort cL_abort 6 (some .int) [(0, 12, 15, 21), (0, 12, 19, 13), (0, 12, 23, 15)]) List.mem_cons_self)
  have hl := lv_entry ([.ref o, .int p1, .int p2, .int p3, .ref ou]) (n := 6) (Nat.le_of_ble_eq_true rfl)
  rw [lg_entry_eq]
  generalize (lg_sl ([.ref o, .int p1, .int p2, .int p3, .ref ou]) ++ List.replicate (6 - (lg_sl ([.ref o, .int p1, .int p2, .int p3, .ref ou])).length) Slot.unset).toArray = ls at hl ⊢
  have hl : lv_has ls 6 [(0, .ref o), (1, .int p1), (2, .int p2), (3, .int p3), (4, .ref ou)] := hl
  obtain ⟨hH9, ⟨lab, nm, rf, hV, hl9, hIQ, hz, ho⟩, o0, hO⟩ := hI
  subst hH9
  subst hz
  subst ho
  have hS : va_S (fun q => A q ∨ q = ou) s.heap s.heap [] := va_S.rf
  refine lv_aload hx hb dL_abort_0 (lv_at hl 4 rfl) ?_
  refine lv_iconst (v := 0) hx hb dL_abort_2 (by decide) ?_
  refine lv_aload_n hx hb dL_abort_3 rfl (lv_at hl 0 rfl) ?_
  refine lv_iload_n hx hb dL_abort_4 rfl (lv_at hl 1 rfl) ?_
  refine lv_iload_n hx hb dL_abort_5 rfl (lv_at hl 2 rfl) ?_
  refine lv_iload_n hx hb dL_abort_6 rfl (lv_at hl 3 rfl) ?_
  refine xl_call (vx_runV (As := [.int p1, .int p2, .int p3]) (rest := [.int 0, .ref ou]) ⟨hx, hb, hml, hown, hts⟩ (c_X6_abort l hst D cA lab nm rf f nC nL nV hi A hl9 s.heap p1 p2 p3) (cwV 3 hts gL_abort_X6_abort rfl rfl rfl (by decide +kernel) ⟨Nat.le_of_ble_eq_true rfl, Nat.le_of_ble_eq_true rfl⟩) (xPXV hK pK.blind (fun U hU hW => hX.1.at hS (fun _ h => Or.inl h) hU hW) hV.1 rfl ⟨rfl, hV, hIQ⟩) rfl rfl hl.1 rfl (lv_room (Nat.le_of_ble_eq_true rfl)) dL_abort_7 ⟨Nat.le_of_ble_eq_true rfl, Nat.le_of_ble_eq_true rfl⟩) hS (fun _ _ h => Or.inl h) (fun _ h => Or.inl h) (fun hk0 ce q9 H locs hQ z9 qf hS g1 g2 g3 => ?_) (fun hk0 H locs hP z9 qf hS => ?_)
  · have hO := x_kept hO (qf _ (q_lt hO) hou)
    rcases (kr_wrF (mS f) nL p1 p2 true p3 true).resolve_left hk0 with hk | hk | hk
    · have g4 : s.vm.findClass "java/lang/IndexOutOfBoundsException" = some ce.cls := by (try rw [hk] at g3); exact g3
      refine vx_catch hown [] ⟨0, 12, 15, 21⟩ [⟨0, 12, 19, 13⟩, ⟨0, 12, 23, 15⟩] (by rw [htab]; rfl) (fun z hz => by cases hz) (by decide) (by decide) (hts (.classLink RL 21 "java/lang/IndexOutOfBoundsException") (by decide +kernel)) (va_Nw.use rfl (hX.1.2.2.2.2.2.2.2.2.2.2 _ (by decide))) g1 g2 g4 ?_
      refine W.eq (g2 := F0 m 15 ls [.ref q9]) rfl ?_
      refine lv_astore (lv' := [(5, .ref q9), (0, .ref (nm 0 0)), (1, .int p1), (2, .int p2), (3, .int p3), (4, .ref ou)]) hx hb dL_abort_15 hl (by decide) rfl (fun ls hl => ?_)
      refine lv_iconst (v := 1) hx hb dL_abort_17 (by decide) ?_
      exact xw_iret hx hb hr hlocks hS ⟨by rw [hk], Or.inr ⟨hk0, hQ, _, hO⟩⟩ (Nat.le_of_ble_eq_true rfl) (Nat.le_of_ble_eq_true rfl) dL_abort_18
    · have g4 : s.vm.findClass "java/lang/IllegalArgumentException" = some ce.cls := by (try rw [hk] at g3); exact g3
      refine vx_catch hown [⟨0, 12, 15, 21⟩] ⟨0, 12, 19, 13⟩ [⟨0, 12, 23, 15⟩] (by rw [htab]; rfl) (fun z hz => by
          simp only [List.mem_cons, List.not_mem_nil, or_false] at hz
          subst hz
          exact Or.inr ⟨by decide, "java/lang/IndexOutOfBoundsException", hts (.classLink RL 21 "java/lang/IndexOutOfBoundsException") (by decide +kernel), hX.2 _ (by decide) _ (by decide) (by decide)⟩) (by decide) (by decide) (hts (.classLink RL 13 "java/lang/IllegalArgumentException") (by decide +kernel)) (va_Nw.use rfl (hX.1.2.2.2.2.2.2.2.2.2.2 _ (by decide))) g1 g2 g4 ?_
      refine W.eq (g2 := F0 m 19 ls [.ref q9]) rfl ?_
      refine lv_astore (lv' := [(5, .ref q9), (0, .ref (nm 0 0)), (1, .int p1), (2, .int p2), (3, .int p3), (4, .ref ou)]) hx hb dL_abort_19 hl (by decide) rfl (fun ls hl => ?_)
      refine lv_iconst (v := 2) hx hb dL_abort_21 (by decide) ?_
      exact xw_iret hx hb hr hlocks hS ⟨by rw [hk], Or.inr ⟨hk0, hQ, _, hO⟩⟩ (Nat.le_of_ble_eq_true rfl) (Nat.le_of_ble_eq_true rfl) dL_abort_22
    · have g4 : s.vm.findClass "java/lang/IllegalStateException" = some ce.cls := by (try rw [hk] at g3); exact g3
      refine vx_catch hown [⟨0, 12, 15, 21⟩, ⟨0, 12, 19, 13⟩] ⟨0, 12, 23, 15⟩ [] (by rw [htab]; rfl) (fun z hz => by
          simp only [List.mem_cons, List.not_mem_nil, or_false] at hz
          rcases hz with rfl | rfl
          · exact Or.inr ⟨by decide, "java/lang/IndexOutOfBoundsException", hts (.classLink RL 21 "java/lang/IndexOutOfBoundsException") (by decide +kernel), hX.2 _ (by decide) _ (by decide) (by decide)⟩
          · exact Or.inr ⟨by decide, "java/lang/IllegalArgumentException", hts (.classLink RL 13 "java/lang/IllegalArgumentException") (by decide +kernel), hX.2 _ (by decide) _ (by decide) (by decide)⟩) (by decide) (by decide) (hts (.classLink RL 15 "java/lang/IllegalStateException") (by decide +kernel)) (va_Nw.use rfl (hX.1.2.2.2.2.2.2.2.2.2.2 _ (by decide))) g1 g2 g4 ?_
      refine W.eq (g2 := F0 m 23 ls [.ref q9]) rfl ?_
      refine lv_astore (lv' := [(5, .ref q9), (0, .ref (nm 0 0)), (1, .int p1), (2, .int p2), (3, .int p3), (4, .ref ou)]) hx hb dL_abort_23 hl (by decide) rfl (fun ls hl => ?_)
      refine lv_iconst (v := 3) hx hb dL_abort_25 (by decide) ?_
      exact xw_iret hx hb hr hlocks hS ⟨by rw [hk], Or.inr ⟨hk0, hQ, _, hO⟩⟩ (Nat.le_of_ble_eq_true rfl) (Nat.le_of_ble_eq_true rfl) dL_abort_26
  · have hO := x_kept hO (qf _ (q_lt hO) hou)
    refine lv_i2l hx hb dL_abort_10 rfl ?_
    have hPl := hP
    refine x_last hx hb hK hO hS (Or.inr rfl) 0 rfl (by omega) (by decide) dL_abort_11 (fun H locs hO z8 q8 hS => ?_)
    have hP := hPl.same (fun q h1 h2 => q8 q (fun e => hou (by rw [← e]; exact h2)))
    refine lv_goto (tgt := 27) hx hb dL_abort_12 (by decide) ?_
    refine lv_iconst (v := 0) hx hb dL_abort_27 (by decide) ?_
    exact xw_iret hx hb hr hlocks hS ⟨by rw [hk0], Or.inl ⟨hk0, hP, hO⟩⟩ (Nat.le_of_ble_eq_true rfl) (Nat.le_of_ble_eq_true rfl) dL_abort_28
set_option maxHeartbeats 4000000 in
set_option maxRecDepth 100000 in
theorem c_L_shareOf (l : Launch) (hst : l.stackTraces = false) (D : va_G) (cA : Nat → ClassId) (A : Nat → Prop) (z o ou : Nat) (f : Nat → Nat → Int32) (nC nL nV : Nat) (hi : CRi f nC nL nV) (H9 : Heap) (p1 : Int32) (p2 : Int32) (hou : ¬ A ou) (hAn : ∀ q, H9.size ≤ q → A q) : Met l yL_shareOf wsL_shareOf (rmK 42 3 18) (xPX D cA (fun U => lK (fun q => A q ∨ q = ou) z U) [.ref o, .int p1, .int p2, .ref ou] (fun H => H = H9 ∧ CS D cA A z o f nC nL nV H ∧ ∃ o0, xL (cA 1) ou 1 o0 H)) (xW (lJ cA ou (kCe nL p1 p2) ((f 10 (cl p1 p2)).toInt64) (CS D cA A z o f nC nL nV) (CS D cA A z o f nC nL nV)) (fun q => A q ∨ q = ou)) 3 18 (fun q => A q ∨ q = ou) := by
  refine va_MetW (cc := cL_shareOf) (maxL := 5) (ret := (some .int)) (hh := [(0, 10, 13, 21)]) (by decide) rfl ?_
  intro p e s m args below meth c s₁ B hml hv
  obtain ⟨rfl, ⟨hK, hX⟩, hI⟩ := hv
  have hx := B.exec
  have hb := B.bytes
  have hr := B.returns
  have hts := atoms_spec (ws := wsL_shareOf) B.pre
  have hown : s.vm.findClass RL = some m.cls := findClass_of_methodNamed B.named
  have hlocks := B.notSynchronized
  have htab := vx_table (x := yL_shareOf) B (hts (.codeWith yL_shareOf cL_shareOf 5 (some .int) [(0, 10, 13, 21)]) List.mem_cons_self)
  have hl := lv_entry ([.ref o, .int p1, .int p2, .ref ou]) (n := 5) (Nat.le_of_ble_eq_true rfl)
  rw [lg_entry_eq]
  generalize (lg_sl ([.ref o, .int p1, .int p2, .ref ou]) ++ List.replicate (5 - (lg_sl ([.ref o, .int p1, .int p2, .ref ou])).length) Slot.unset).toArray = ls at hl ⊢
  have hl : lv_has ls 5 [(0, .ref o), (1, .int p1), (2, .int p2), (3, .ref ou)] := hl
  obtain ⟨hH9, ⟨lab, nm, rf, hV, hl9, hIQ, hz, ho⟩, o0, hO⟩ := hI
  subst hH9
  subst hz
  subst ho
  have hS : va_S (fun q => A q ∨ q = ou) s.heap s.heap [] := va_S.rf
  refine lv_aload_n hx hb dL_shareOf_0 rfl (lv_at hl 3 rfl) ?_
  refine lv_iconst (v := 0) hx hb dL_shareOf_1 (by decide) ?_
  refine lv_aload_n hx hb dL_shareOf_2 rfl (lv_at hl 0 rfl) ?_
  refine lv_iload_n hx hb dL_shareOf_3 rfl (lv_at hl 1 rfl) ?_
  refine lv_iload_n hx hb dL_shareOf_4 rfl (lv_at hl 2 rfl) ?_
  refine xl_call (vx_runV (As := [.int p1, .int p2]) (rest := [.int 0, .ref ou]) ⟨hx, hb, hml, hown, hts⟩ (c_X6_shareOf l hst D cA lab nm rf f nC nL nV hi A hl9 s.heap p1 p2) (cwV 2 hts gL_shareOf_X6_shareOf rfl rfl rfl (by decide +kernel) ⟨Nat.le_of_ble_eq_true rfl, Nat.le_of_ble_eq_true rfl⟩) (xPXV hK pK.blind (fun U hU hW => hX.1.at hS (fun _ h => Or.inl h) hU hW) hV.1 rfl ⟨rfl, hV, hIQ⟩) rfl rfl hl.1 rfl (lv_room (Nat.le_of_ble_eq_true rfl)) dL_shareOf_5 ⟨Nat.le_of_ble_eq_true rfl, Nat.le_of_ble_eq_true rfl⟩) hS (fun _ _ h => Or.inl h) (fun _ h => Or.inl h) (fun hk0 ce q9 H locs hQ z9 qf hS g1 g2 g3 => ?_) (fun hk0 H locs hP z9 qf hS => ?_)
  · have hO := x_kept hO (qf _ (q_lt hO) hou)
    have hk := (kr_kCe nL p1 p2).resolve_left hk0
    have g4 : s.vm.findClass "java/lang/IndexOutOfBoundsException" = some ce.cls := by (try rw [hk] at g3); exact g3
    refine vx_catch hown [] ⟨0, 10, 13, 21⟩ [] (by rw [htab]; rfl) (fun z hz => by cases hz) (by decide) (by decide) (hts (.classLink RL 21 "java/lang/IndexOutOfBoundsException") (by decide +kernel)) (va_Nw.use rfl (hX.1.2.2.2.2.2.2.2.2.2.2 _ (by decide))) g1 g2 g4 ?_
    refine W.eq (g2 := F0 m 13 ls [.ref q9]) rfl ?_
    refine lv_astore (lv' := [(4, .ref q9), (0, .ref (nm 0 0)), (1, .int p1), (2, .int p2), (3, .ref ou)]) hx hb dL_shareOf_13 hl (by decide) rfl (fun ls hl => ?_)
    refine lv_iconst (v := 1) hx hb dL_shareOf_15 (by decide) ?_
    exact xw_iret hx hb hr hlocks hS ⟨by rw [hk], Or.inr ⟨hk0, hQ, _, hO⟩⟩ (Nat.le_of_ble_eq_true rfl) (Nat.le_of_ble_eq_true rfl) dL_shareOf_16
  · have hO := x_kept hO (qf _ (q_lt hO) hou)
    refine lv_i2l hx hb dL_shareOf_8 rfl ?_
    have hPl := hP
    refine x_last hx hb hK hO hS (Or.inr rfl) 0 rfl (by omega) (by decide) dL_shareOf_9 (fun H locs hO z8 q8 hS => ?_)
    have hP := hPl.same (fun q h1 h2 => q8 q (fun e => hou (by rw [← e]; exact h2)))
    refine lv_goto (tgt := 17) hx hb dL_shareOf_10 (by decide) ?_
    refine lv_iconst (v := 0) hx hb dL_shareOf_17 (by decide) ?_
    exact xw_iret hx hb hr hlocks hS ⟨by rw [hk0], Or.inl ⟨hk0, hP, hO⟩⟩ (Nat.le_of_ble_eq_true rfl) (Nat.le_of_ble_eq_true rfl) dL_shareOf_18
set_option maxHeartbeats 4000000 in
set_option maxRecDepth 100000 in
theorem c_L_lock (l : Launch) (hst : l.stackTraces = false) (D : va_G) (cA : Nat → ClassId) (A : Nat → Prop) (z o ou : Nat) (f : Nat → Nat → Int32) (nC nL nV : Nat) (hi : CRi f nC nL nV) (H9 : Heap) (p1 : Int32) (p2 : Int32) (p3 : Int32) (hou : ¬ A ou) (hAn : ∀ q, H9.size ≤ q → A q) : Met l yL_lock wsL_lock (rmK 42 3 18) (xPX D cA (fun U => lK (fun q => A q ∨ q = ou) z U) [.ref o, .int p1, .int p2, .int p3, .ref ou] (fun H => H = H9 ∧ CS D cA A z o f nC nL nV H ∧ ∃ o0, xL (cA 1) ou 1 o0 H)) (xW (lJ cA ou (kLo (mS f) nL p1 p2 p3) ((nI (lksF ((sa (mS f) 11 (lkA (ix p1) p2) p3).2.1 11) p3)).toInt64) (CS D cA A z o ((sa (mS f) 11 (lkA (ix p1) p2) p3).2.1) nC nL nV) (CS D cA A z o f nC nL nV)) (fun q => A q ∨ q = ou)) 3 18 (fun q => A q ∨ q = ou) := by
  refine va_MetW (cc := cL_lock) (maxL := 6) (ret := (some .int)) (hh := [(0, 12, 15, 21), (0, 12, 19, 13), (0, 12, 23, 15)]) (by decide) rfl ?_
  intro p e s m args below meth c s₁ B hml hv
  obtain ⟨rfl, ⟨hK, hX⟩, hI⟩ := hv
  have hx := B.exec
  have hb := B.bytes
  have hr := B.returns
  have hts := atoms_spec (ws := wsL_lock) B.pre
  have hown : s.vm.findClass RL = some m.cls := findClass_of_methodNamed B.named
  have hlocks := B.notSynchronized
  have htab := vx_table (x := yL_lock) B (hts (.codeWith yL_lock cL_lock 6 (some .int) [(0, 12, 15, 21), (0, 12, 19, 13), (0, 12, 23, 15)]) List.mem_cons_self)
  have hl := lv_entry ([.ref o, .int p1, .int p2, .int p3, .ref ou]) (n := 6) (Nat.le_of_ble_eq_true rfl)
  rw [lg_entry_eq]
  generalize (lg_sl ([.ref o, .int p1, .int p2, .int p3, .ref ou]) ++ List.replicate (6 - (lg_sl ([.ref o, .int p1, .int p2, .int p3, .ref ou])).length) Slot.unset).toArray = ls at hl ⊢
  have hl : lv_has ls 6 [(0, .ref o), (1, .int p1), (2, .int p2), (3, .int p3), (4, .ref ou)] := hl
  obtain ⟨hH9, ⟨lab, nm, rf, hV, hl9, hIQ, hz, ho⟩, o0, hO⟩ := hI
  subst hH9
  subst hz
  subst ho
  have hS : va_S (fun q => A q ∨ q = ou) s.heap s.heap [] := va_S.rf
  refine lv_aload hx hb dL_lock_0 (lv_at hl 4 rfl) ?_
  refine lv_iconst (v := 0) hx hb dL_lock_2 (by decide) ?_
  refine lv_aload_n hx hb dL_lock_3 rfl (lv_at hl 0 rfl) ?_
  refine lv_iload_n hx hb dL_lock_4 rfl (lv_at hl 1 rfl) ?_
  refine lv_iload_n hx hb dL_lock_5 rfl (lv_at hl 2 rfl) ?_
  refine lv_iload_n hx hb dL_lock_6 rfl (lv_at hl 3 rfl) ?_
  refine xl_call (vx_runV (As := [.int p1, .int p2, .int p3]) (rest := [.int 0, .ref ou]) ⟨hx, hb, hml, hown, hts⟩ (c_X6_lock l hst D cA lab nm rf f nC nL nV hi A hl9 s.heap p1 p2 p3) (cwV 3 hts gL_lock_X6_lock rfl rfl rfl (by decide +kernel) ⟨Nat.le_of_ble_eq_true rfl, Nat.le_of_ble_eq_true rfl⟩) (xPXV hK pK.blind (fun U hU hW => hX.1.at hS (fun _ h => Or.inl h) hU hW) hV.1 rfl ⟨rfl, hV, hIQ⟩) rfl rfl hl.1 rfl (lv_room (Nat.le_of_ble_eq_true rfl)) dL_lock_7 ⟨Nat.le_of_ble_eq_true rfl, Nat.le_of_ble_eq_true rfl⟩) hS (fun _ _ h => Or.inl h) (fun _ h => Or.inl h) (fun hk0 ce q9 H locs hQ z9 qf hS g1 g2 g3 => ?_) (fun hk0 H locs hP z9 qf hS => ?_)
  · have hO := x_kept hO (qf _ (q_lt hO) hou)
    rcases (kr_kLo (mS f) nL p1 p2 p3).resolve_left hk0 with hk | hk | hk
    · have g4 : s.vm.findClass "java/lang/IndexOutOfBoundsException" = some ce.cls := by (try rw [hk] at g3); exact g3
      refine vx_catch hown [] ⟨0, 12, 15, 21⟩ [⟨0, 12, 19, 13⟩, ⟨0, 12, 23, 15⟩] (by rw [htab]; rfl) (fun z hz => by cases hz) (by decide) (by decide) (hts (.classLink RL 21 "java/lang/IndexOutOfBoundsException") (by decide +kernel)) (va_Nw.use rfl (hX.1.2.2.2.2.2.2.2.2.2.2 _ (by decide))) g1 g2 g4 ?_
      refine W.eq (g2 := F0 m 15 ls [.ref q9]) rfl ?_
      refine lv_astore (lv' := [(5, .ref q9), (0, .ref (nm 0 0)), (1, .int p1), (2, .int p2), (3, .int p3), (4, .ref ou)]) hx hb dL_lock_15 hl (by decide) rfl (fun ls hl => ?_)
      refine lv_iconst (v := 1) hx hb dL_lock_17 (by decide) ?_
      exact xw_iret hx hb hr hlocks hS ⟨by rw [hk], Or.inr ⟨hk0, hQ, _, hO⟩⟩ (Nat.le_of_ble_eq_true rfl) (Nat.le_of_ble_eq_true rfl) dL_lock_18
    · have g4 : s.vm.findClass "java/lang/IllegalArgumentException" = some ce.cls := by (try rw [hk] at g3); exact g3
      refine vx_catch hown [⟨0, 12, 15, 21⟩] ⟨0, 12, 19, 13⟩ [⟨0, 12, 23, 15⟩] (by rw [htab]; rfl) (fun z hz => by
          simp only [List.mem_cons, List.not_mem_nil, or_false] at hz
          subst hz
          exact Or.inr ⟨by decide, "java/lang/IndexOutOfBoundsException", hts (.classLink RL 21 "java/lang/IndexOutOfBoundsException") (by decide +kernel), hX.2 _ (by decide) _ (by decide) (by decide)⟩) (by decide) (by decide) (hts (.classLink RL 13 "java/lang/IllegalArgumentException") (by decide +kernel)) (va_Nw.use rfl (hX.1.2.2.2.2.2.2.2.2.2.2 _ (by decide))) g1 g2 g4 ?_
      refine W.eq (g2 := F0 m 19 ls [.ref q9]) rfl ?_
      refine lv_astore (lv' := [(5, .ref q9), (0, .ref (nm 0 0)), (1, .int p1), (2, .int p2), (3, .int p3), (4, .ref ou)]) hx hb dL_lock_19 hl (by decide) rfl (fun ls hl => ?_)
      refine lv_iconst (v := 2) hx hb dL_lock_21 (by decide) ?_
      exact xw_iret hx hb hr hlocks hS ⟨by rw [hk], Or.inr ⟨hk0, hQ, _, hO⟩⟩ (Nat.le_of_ble_eq_true rfl) (Nat.le_of_ble_eq_true rfl) dL_lock_22
    · have g4 : s.vm.findClass "java/lang/IllegalStateException" = some ce.cls := by (try rw [hk] at g3); exact g3
      refine vx_catch hown [⟨0, 12, 15, 21⟩, ⟨0, 12, 19, 13⟩] ⟨0, 12, 23, 15⟩ [] (by rw [htab]; rfl) (fun z hz => by
          simp only [List.mem_cons, List.not_mem_nil, or_false] at hz
          rcases hz with rfl | rfl
          · exact Or.inr ⟨by decide, "java/lang/IndexOutOfBoundsException", hts (.classLink RL 21 "java/lang/IndexOutOfBoundsException") (by decide +kernel), hX.2 _ (by decide) _ (by decide) (by decide)⟩
          · exact Or.inr ⟨by decide, "java/lang/IllegalArgumentException", hts (.classLink RL 13 "java/lang/IllegalArgumentException") (by decide +kernel), hX.2 _ (by decide) _ (by decide) (by decide)⟩) (by decide) (by decide) (hts (.classLink RL 15 "java/lang/IllegalStateException") (by decide +kernel)) (va_Nw.use rfl (hX.1.2.2.2.2.2.2.2.2.2.2 _ (by decide))) g1 g2 g4 ?_
      refine W.eq (g2 := F0 m 23 ls [.ref q9]) rfl ?_
      refine lv_astore (lv' := [(5, .ref q9), (0, .ref (nm 0 0)), (1, .int p1), (2, .int p2), (3, .int p3), (4, .ref ou)]) hx hb dL_lock_23 hl (by decide) rfl (fun ls hl => ?_)
      refine lv_iconst (v := 3) hx hb dL_lock_25 (by decide) ?_
      exact xw_iret hx hb hr hlocks hS ⟨by rw [hk], Or.inr ⟨hk0, hQ, _, hO⟩⟩ (Nat.le_of_ble_eq_true rfl) (Nat.le_of_ble_eq_true rfl) dL_lock_26
  · have hO := x_kept hO (qf _ (q_lt hO) hou)
    refine lv_i2l hx hb dL_lock_10 rfl ?_
    have hPl := hP
    refine x_last hx hb hK hO hS (Or.inr rfl) 0 rfl (by omega) (by decide) dL_lock_11 (fun H locs hO z8 q8 hS => ?_)
    have hP := hPl.same (fun q h1 h2 => q8 q (fun e => hou (by rw [← e]; exact h2)))
    refine lv_goto (tgt := 27) hx hb dL_lock_12 (by decide) ?_
    refine lv_iconst (v := 0) hx hb dL_lock_27 (by decide) ?_
    exact xw_iret hx hb hr hlocks hS ⟨by rw [hk0], Or.inl ⟨hk0, hP, hO⟩⟩ (Nat.le_of_ble_eq_true rfl) (Nat.le_of_ble_eq_true rfl) dL_lock_28
set_option maxHeartbeats 4000000 in
set_option maxRecDepth 100000 in
theorem c_L_unlock (l : Launch) (hst : l.stackTraces = false) (D : va_G) (cA : Nat → ClassId) (A : Nat → Prop) (z o ou : Nat) (f : Nat → Nat → Int32) (nC nL nV : Nat) (hi : CRi f nC nL nV) (H9 : Heap) (p1 : Int32) (p2 : Int32) (p3 : Int32) (hou : ¬ A ou) (hAn : ∀ q, H9.size ≤ q → A q) : Met l yL_unlock wsL_unlock (rmK 42 3 18) (xPX D cA (fun U => lK (fun q => A q ∨ q = ou) z U) [.ref o, .int p1, .int p2, .int p3, .ref ou] (fun H => H = H9 ∧ CS D cA A z o f nC nL nV H ∧ ∃ o0, xL (cA 1) ou 1 o0 H)) (xW (lJ cA ou (kUn (mS f) nL p1 p2 p3) ((nI (lksF ((sa (mS f) 11 (lkA (ix p1) p2) 0).2.1 11) p3)).toInt64) (CS D cA A z o ((sa (mS f) 11 (lkA (ix p1) p2) 0).2.1) nC nL nV) (CS D cA A z o f nC nL nV)) (fun q => A q ∨ q = ou)) 3 18 (fun q => A q ∨ q = ou) := by
  refine va_MetW (cc := cL_unlock) (maxL := 6) (ret := (some .int)) (hh := [(0, 12, 15, 21), (0, 12, 19, 13), (0, 12, 23, 15)]) (by decide) rfl ?_
  intro p e s m args below meth c s₁ B hml hv
  obtain ⟨rfl, ⟨hK, hX⟩, hI⟩ := hv
  have hx := B.exec
  have hb := B.bytes
  have hr := B.returns
  have hts := atoms_spec (ws := wsL_unlock) B.pre
  have hown : s.vm.findClass RL = some m.cls := findClass_of_methodNamed B.named
  have hlocks := B.notSynchronized
  have htab := vx_table (x := yL_unlock) B (hts (.codeWith yL_unlock cL_unlock 6 (some .int) [(0, 12, 15, 21), (0, 12, 19, 13), (0, 12, 23, 15)]) List.mem_cons_self)
  have hl := lv_entry ([.ref o, .int p1, .int p2, .int p3, .ref ou]) (n := 6) (Nat.le_of_ble_eq_true rfl)
  rw [lg_entry_eq]
  generalize (lg_sl ([.ref o, .int p1, .int p2, .int p3, .ref ou]) ++ List.replicate (6 - (lg_sl ([.ref o, .int p1, .int p2, .int p3, .ref ou])).length) Slot.unset).toArray = ls at hl ⊢
  have hl : lv_has ls 6 [(0, .ref o), (1, .int p1), (2, .int p2), (3, .int p3), (4, .ref ou)] := hl
  obtain ⟨hH9, ⟨lab, nm, rf, hV, hl9, hIQ, hz, ho⟩, o0, hO⟩ := hI
  subst hH9
  subst hz
  subst ho
  have hS : va_S (fun q => A q ∨ q = ou) s.heap s.heap [] := va_S.rf
  refine lv_aload hx hb dL_unlock_0 (lv_at hl 4 rfl) ?_
  refine lv_iconst (v := 0) hx hb dL_unlock_2 (by decide) ?_
  refine lv_aload_n hx hb dL_unlock_3 rfl (lv_at hl 0 rfl) ?_
  refine lv_iload_n hx hb dL_unlock_4 rfl (lv_at hl 1 rfl) ?_
  refine lv_iload_n hx hb dL_unlock_5 rfl (lv_at hl 2 rfl) ?_
  refine lv_iload_n hx hb dL_unlock_6 rfl (lv_at hl 3 rfl) ?_
  refine xl_call (vx_runV (As := [.int p1, .int p2, .int p3]) (rest := [.int 0, .ref ou]) ⟨hx, hb, hml, hown, hts⟩ (c_X6_unlock l hst D cA lab nm rf f nC nL nV hi A hl9 s.heap p1 p2 p3) (cwV 3 hts gL_unlock_X6_unlock rfl rfl rfl (by decide +kernel) ⟨Nat.le_of_ble_eq_true rfl, Nat.le_of_ble_eq_true rfl⟩) (xPXV hK pK.blind (fun U hU hW => hX.1.at hS (fun _ h => Or.inl h) hU hW) hV.1 rfl ⟨rfl, hV, hIQ⟩) rfl rfl hl.1 rfl (lv_room (Nat.le_of_ble_eq_true rfl)) dL_unlock_7 ⟨Nat.le_of_ble_eq_true rfl, Nat.le_of_ble_eq_true rfl⟩) hS (fun _ _ h => Or.inl h) (fun _ h => Or.inl h) (fun hk0 ce q9 H locs hQ z9 qf hS g1 g2 g3 => ?_) (fun hk0 H locs hP z9 qf hS => ?_)
  · have hO := x_kept hO (qf _ (q_lt hO) hou)
    rcases (kr_kUn (mS f) nL p1 p2 p3).resolve_left hk0 with hk | hk | hk
    · have g4 : s.vm.findClass "java/lang/IndexOutOfBoundsException" = some ce.cls := by (try rw [hk] at g3); exact g3
      refine vx_catch hown [] ⟨0, 12, 15, 21⟩ [⟨0, 12, 19, 13⟩, ⟨0, 12, 23, 15⟩] (by rw [htab]; rfl) (fun z hz => by cases hz) (by decide) (by decide) (hts (.classLink RL 21 "java/lang/IndexOutOfBoundsException") (by decide +kernel)) (va_Nw.use rfl (hX.1.2.2.2.2.2.2.2.2.2.2 _ (by decide))) g1 g2 g4 ?_
      refine W.eq (g2 := F0 m 15 ls [.ref q9]) rfl ?_
      refine lv_astore (lv' := [(5, .ref q9), (0, .ref (nm 0 0)), (1, .int p1), (2, .int p2), (3, .int p3), (4, .ref ou)]) hx hb dL_unlock_15 hl (by decide) rfl (fun ls hl => ?_)
      refine lv_iconst (v := 1) hx hb dL_unlock_17 (by decide) ?_
      exact xw_iret hx hb hr hlocks hS ⟨by rw [hk], Or.inr ⟨hk0, hQ, _, hO⟩⟩ (Nat.le_of_ble_eq_true rfl) (Nat.le_of_ble_eq_true rfl) dL_unlock_18
    · have g4 : s.vm.findClass "java/lang/IllegalArgumentException" = some ce.cls := by (try rw [hk] at g3); exact g3
      refine vx_catch hown [⟨0, 12, 15, 21⟩] ⟨0, 12, 19, 13⟩ [⟨0, 12, 23, 15⟩] (by rw [htab]; rfl) (fun z hz => by
          simp only [List.mem_cons, List.not_mem_nil, or_false] at hz
          subst hz
          exact Or.inr ⟨by decide, "java/lang/IndexOutOfBoundsException", hts (.classLink RL 21 "java/lang/IndexOutOfBoundsException") (by decide +kernel), hX.2 _ (by decide) _ (by decide) (by decide)⟩) (by decide) (by decide) (hts (.classLink RL 13 "java/lang/IllegalArgumentException") (by decide +kernel)) (va_Nw.use rfl (hX.1.2.2.2.2.2.2.2.2.2.2 _ (by decide))) g1 g2 g4 ?_
      refine W.eq (g2 := F0 m 19 ls [.ref q9]) rfl ?_
      refine lv_astore (lv' := [(5, .ref q9), (0, .ref (nm 0 0)), (1, .int p1), (2, .int p2), (3, .int p3), (4, .ref ou)]) hx hb dL_unlock_19 hl (by decide) rfl (fun ls hl => ?_)
      refine lv_iconst (v := 2) hx hb dL_unlock_21 (by decide) ?_
      exact xw_iret hx hb hr hlocks hS ⟨by rw [hk], Or.inr ⟨hk0, hQ, _, hO⟩⟩ (Nat.le_of_ble_eq_true rfl) (Nat.le_of_ble_eq_true rfl) dL_unlock_22
    · have g4 : s.vm.findClass "java/lang/IllegalStateException" = some ce.cls := by (try rw [hk] at g3); exact g3
      refine vx_catch hown [⟨0, 12, 15, 21⟩, ⟨0, 12, 19, 13⟩] ⟨0, 12, 23, 15⟩ [] (by rw [htab]; rfl) (fun z hz => by
          simp only [List.mem_cons, List.not_mem_nil, or_false] at hz
          rcases hz with rfl | rfl
          · exact Or.inr ⟨by decide, "java/lang/IndexOutOfBoundsException", hts (.classLink RL 21 "java/lang/IndexOutOfBoundsException") (by decide +kernel), hX.2 _ (by decide) _ (by decide) (by decide)⟩
          · exact Or.inr ⟨by decide, "java/lang/IllegalArgumentException", hts (.classLink RL 13 "java/lang/IllegalArgumentException") (by decide +kernel), hX.2 _ (by decide) _ (by decide) (by decide)⟩) (by decide) (by decide) (hts (.classLink RL 15 "java/lang/IllegalStateException") (by decide +kernel)) (va_Nw.use rfl (hX.1.2.2.2.2.2.2.2.2.2.2 _ (by decide))) g1 g2 g4 ?_
      refine W.eq (g2 := F0 m 23 ls [.ref q9]) rfl ?_
      refine lv_astore (lv' := [(5, .ref q9), (0, .ref (nm 0 0)), (1, .int p1), (2, .int p2), (3, .int p3), (4, .ref ou)]) hx hb dL_unlock_23 hl (by decide) rfl (fun ls hl => ?_)
      refine lv_iconst (v := 3) hx hb dL_unlock_25 (by decide) ?_
      exact xw_iret hx hb hr hlocks hS ⟨by rw [hk], Or.inr ⟨hk0, hQ, _, hO⟩⟩ (Nat.le_of_ble_eq_true rfl) (Nat.le_of_ble_eq_true rfl) dL_unlock_26
  · have hO := x_kept hO (qf _ (q_lt hO) hou)
    refine lv_i2l hx hb dL_unlock_10 rfl ?_
    have hPl := hP
    refine x_last hx hb hK hO hS (Or.inr rfl) 0 rfl (by omega) (by decide) dL_unlock_11 (fun H locs hO z8 q8 hS => ?_)
    have hP := hPl.same (fun q h1 h2 => q8 q (fun e => hou (by rw [← e]; exact h2)))
    refine lv_goto (tgt := 27) hx hb dL_unlock_12 (by decide) ?_
    refine lv_iconst (v := 0) hx hb dL_unlock_27 (by decide) ?_
    exact xw_iret hx hb hr hlocks hS ⟨by rw [hk0], Or.inl ⟨hk0, hP, hO⟩⟩ (Nat.le_of_ble_eq_true rfl) (Nat.le_of_ble_eq_true rfl) dL_unlock_28
set_option maxHeartbeats 4000000 in
set_option maxRecDepth 100000 in
theorem c_L_isLocked (l : Launch) (hst : l.stackTraces = false) (D : va_G) (cA : Nat → ClassId) (A : Nat → Prop) (z o ou : Nat) (f : Nat → Nat → Int32) (nC nL nV : Nat) (hi : CRi f nC nL nV) (H9 : Heap) (p1 : Int32) (p2 : Int32) (p3 : Int32) (hou : ¬ A ou) (hAn : ∀ q, H9.size ≤ q → A q) : Met l yL_isLocked wsL_isLocked (rmK 42 3 18) (xPX D cA (fun U => lK (fun q => A q ∨ q = ou) z U) [.ref o, .int p1, .int p2, .int p3, .ref ou] (fun H => H = H9 ∧ CS D cA A z o f nC nL nV H ∧ ∃ o0, xL (cA 1) ou 1 o0 H)) (xW (lJ cA ou (kIL nL p1 p2 p3) (bL (lckF (f 11) (cl p1 p2) p3)) (CS D cA A z o f nC nL nV) (CS D cA A z o f nC nL nV)) (fun q => A q ∨ q = ou)) 3 18 (fun q => A q ∨ q = ou) := by
  refine va_MetW (cc := cL_isLocked) (maxL := 6) (ret := (some .int)) (hh := [(0, 19, 22, 21), (0, 19, 26, 13)]) (by decide) rfl ?_
  intro p e s m args below meth c s₁ B hml hv
  obtain ⟨rfl, ⟨hK, hX⟩, hI⟩ := hv
  have hx := B.exec
  have hb := B.bytes
  have hr := B.returns
  have hts := atoms_spec (ws := wsL_isLocked) B.pre
  have hown : s.vm.findClass RL = some m.cls := findClass_of_methodNamed B.named
  have hlocks := B.notSynchronized
  have htab := vx_table (x := yL_isLocked) B (hts (.codeWith yL_isLocked cL_isLocked 6 (some .int) [(0, 19, 22, 21), (0, 19, 26, 13)]) List.mem_cons_self)
  have hl := lv_entry ([.ref o, .int p1, .int p2, .int p3, .ref ou]) (n := 6) (Nat.le_of_ble_eq_true rfl)
  rw [lg_entry_eq]
  generalize (lg_sl ([.ref o, .int p1, .int p2, .int p3, .ref ou]) ++ List.replicate (6 - (lg_sl ([.ref o, .int p1, .int p2, .int p3, .ref ou])).length) Slot.unset).toArray = ls at hl ⊢
  have hl : lv_has ls 6 [(0, .ref o), (1, .int p1), (2, .int p2), (3, .int p3), (4, .ref ou)] := hl
  obtain ⟨hH9, ⟨lab, nm, rf, hV, hl9, hIQ, hz, ho⟩, o0, hO⟩ := hI
  subst hH9
  subst hz
  subst ho
  have hS : va_S (fun q => A q ∨ q = ou) s.heap s.heap [] := va_S.rf
  refine lv_aload hx hb dL_isLocked_0 (lv_at hl 4 rfl) ?_
  refine lv_iconst (v := 0) hx hb dL_isLocked_2 (by decide) ?_
  refine lv_aload_n hx hb dL_isLocked_3 rfl (lv_at hl 0 rfl) ?_
  refine lv_iload_n hx hb dL_isLocked_4 rfl (lv_at hl 1 rfl) ?_
  refine lv_iload_n hx hb dL_isLocked_5 rfl (lv_at hl 2 rfl) ?_
  refine lv_iload_n hx hb dL_isLocked_6 rfl (lv_at hl 3 rfl) ?_
  refine xl_call (vx_runV (As := [.int p1, .int p2, .int p3]) (rest := [.int 0, .ref ou]) ⟨hx, hb, hml, hown, hts⟩ (c_X6_isLocked l hst D cA lab nm rf f nC nL nV hi A hl9 s.heap p1 p2 p3) (cwV 3 hts gL_isLocked_X6_isLocked rfl rfl rfl (by decide +kernel) ⟨Nat.le_of_ble_eq_true rfl, Nat.le_of_ble_eq_true rfl⟩) (xPXV hK pK.blind (fun U hU hW => hX.1.at hS (fun _ h => Or.inl h) hU hW) hV.1 rfl ⟨rfl, hV, hIQ⟩) rfl rfl hl.1 rfl (lv_room (Nat.le_of_ble_eq_true rfl)) dL_isLocked_7 ⟨Nat.le_of_ble_eq_true rfl, Nat.le_of_ble_eq_true rfl⟩) hS (fun _ _ h => Or.inl h) (fun _ h => Or.inl h) (fun hk0 ce q9 H locs hQ z9 qf hS g1 g2 g3 => ?_) (fun hk0 H locs hP z9 qf hS => ?_)
  · have hO := x_kept hO (qf _ (q_lt hO) hou)
    rcases (kr_kIL nL p1 p2 p3).resolve_left hk0 with hk | hk
    · have g4 : s.vm.findClass "java/lang/IndexOutOfBoundsException" = some ce.cls := by (try rw [hk] at g3); exact g3
      refine vx_catch hown [] ⟨0, 19, 22, 21⟩ [⟨0, 19, 26, 13⟩] (by rw [htab]; rfl) (fun z hz => by cases hz) (by decide) (by decide) (hts (.classLink RL 21 "java/lang/IndexOutOfBoundsException") (by decide +kernel)) (va_Nw.use rfl (hX.1.2.2.2.2.2.2.2.2.2.2 _ (by decide))) g1 g2 g4 ?_
      refine W.eq (g2 := F0 m 22 ls [.ref q9]) rfl ?_
      refine lv_astore (lv' := [(5, .ref q9), (0, .ref (nm 0 0)), (1, .int p1), (2, .int p2), (3, .int p3), (4, .ref ou)]) hx hb dL_isLocked_22 hl (by decide) rfl (fun ls hl => ?_)
      refine lv_iconst (v := 1) hx hb dL_isLocked_24 (by decide) ?_
      exact xw_iret hx hb hr hlocks hS ⟨by rw [hk], Or.inr ⟨hk0, hQ, _, hO⟩⟩ (Nat.le_of_ble_eq_true rfl) (Nat.le_of_ble_eq_true rfl) dL_isLocked_25
    · have g4 : s.vm.findClass "java/lang/IllegalArgumentException" = some ce.cls := by (try rw [hk] at g3); exact g3
      refine vx_catch hown [⟨0, 19, 22, 21⟩] ⟨0, 19, 26, 13⟩ [] (by rw [htab]; rfl) (fun z hz => by
          simp only [List.mem_cons, List.not_mem_nil, or_false] at hz
          subst hz
          exact Or.inr ⟨by decide, "java/lang/IndexOutOfBoundsException", hts (.classLink RL 21 "java/lang/IndexOutOfBoundsException") (by decide +kernel), hX.2 _ (by decide) _ (by decide) (by decide)⟩) (by decide) (by decide) (hts (.classLink RL 13 "java/lang/IllegalArgumentException") (by decide +kernel)) (va_Nw.use rfl (hX.1.2.2.2.2.2.2.2.2.2.2 _ (by decide))) g1 g2 g4 ?_
      refine W.eq (g2 := F0 m 26 ls [.ref q9]) rfl ?_
      refine lv_astore (lv' := [(5, .ref q9), (0, .ref (nm 0 0)), (1, .int p1), (2, .int p2), (3, .int p3), (4, .ref ou)]) hx hb dL_isLocked_26 hl (by decide) rfl (fun ls hl => ?_)
      refine lv_iconst (v := 2) hx hb dL_isLocked_28 (by decide) ?_
      exact xw_iret hx hb hr hlocks hS ⟨by rw [hk], Or.inr ⟨hk0, hQ, _, hO⟩⟩ (Nat.le_of_ble_eq_true rfl) (Nat.le_of_ble_eq_true rfl) dL_isLocked_29
  · have hO := x_kept hO (qf _ (q_lt hO) hou)
    refine xb_eq (tgt := 17) hx hb dL_isLocked_10 (by decide) (fun c_1 => ?_) (fun c_1 => ?_)
    · refine lv_lconst (v := 0) hx hb dL_isLocked_17 (by decide) ?_
      have hPl := hP
      refine x_last hx hb hK hO hS (Or.inr rfl) 0 rfl (by omega) (by decide) dL_isLocked_18 (fun H locs hO z8 q8 hS => ?_)
      have hP := hPl.same (fun q h1 h2 => q8 q (fun e => hou (by rw [← e]; exact h2)))
      refine lv_goto (tgt := 30) hx hb dL_isLocked_19 (by decide) ?_
      refine lv_iconst (v := 0) hx hb dL_isLocked_30 (by decide) ?_
      exact xw_iret hx hb hr hlocks hS ⟨by rw [hk0], Or.inl ⟨hk0, hP, (by unfold bL; rw [c_1]; exact hO)⟩⟩ (Nat.le_of_ble_eq_true rfl) (Nat.le_of_ble_eq_true rfl) dL_isLocked_31
    · refine lv_lconst (v := 1) hx hb dL_isLocked_13 (by decide) ?_
      refine lv_goto (tgt := 18) hx hb dL_isLocked_14 (by decide) ?_
      have hPl := hP
      refine x_last hx hb hK hO hS (Or.inr rfl) 0 rfl (by omega) (by decide) dL_isLocked_18 (fun H locs hO z8 q8 hS => ?_)
      have hP := hPl.same (fun q h1 h2 => q8 q (fun e => hou (by rw [← e]; exact h2)))
      refine lv_goto (tgt := 30) hx hb dL_isLocked_19 (by decide) ?_
      refine lv_iconst (v := 0) hx hb dL_isLocked_30 (by decide) ?_
      exact xw_iret hx hb hr hlocks hS ⟨by rw [hk0], Or.inl ⟨hk0, hP, (by unfold bL; rw [c_1]; exact hO)⟩⟩ (Nat.le_of_ble_eq_true rfl) (Nat.le_of_ble_eq_true rfl) dL_isLocked_31
set_option maxHeartbeats 4000000 in
set_option maxRecDepth 100000 in
theorem c_L_changedAt (l : Launch) (hst : l.stackTraces = false) (D : va_G) (cA : Nat → ClassId) (A : Nat → Prop) (z o ou : Nat) (f : Nat → Nat → Int32) (nC nL nV : Nat) (hi : CRi f nC nL nV) (H9 : Heap) (p1 : Int32) (p2 : Int32) (hou : ¬ A ou) (hAn : ∀ q, H9.size ≤ q → A q) : Met l yL_changedAt wsL_changedAt (rmK 42 3 18) (xPX D cA (fun U => lK (fun q => A q ∨ q = ou) z U) [.ref o, .int p1, .int p2, .ref ou] (fun H => H = H9 ∧ CS D cA A z o f nC nL nV H ∧ ∃ o0, xL (cA 1) ou 1 o0 H)) (xW (lJ cA ou (kCe nL p1 p2) ((f 8 (cl p1 p2)).toInt64) (CS D cA A z o f nC nL nV) (CS D cA A z o f nC nL nV)) (fun q => A q ∨ q = ou)) 3 18 (fun q => A q ∨ q = ou) := by
  refine va_MetW (cc := cL_changedAt) (maxL := 5) (ret := (some .int)) (hh := [(0, 10, 13, 21)]) (by decide) rfl ?_
  intro p e s m args below meth c s₁ B hml hv
  obtain ⟨rfl, ⟨hK, hX⟩, hI⟩ := hv
  have hx := B.exec
  have hb := B.bytes
  have hr := B.returns
  have hts := atoms_spec (ws := wsL_changedAt) B.pre
  have hown : s.vm.findClass RL = some m.cls := findClass_of_methodNamed B.named
  have hlocks := B.notSynchronized
  have htab := vx_table (x := yL_changedAt) B (hts (.codeWith yL_changedAt cL_changedAt 5 (some .int) [(0, 10, 13, 21)]) List.mem_cons_self)
  have hl := lv_entry ([.ref o, .int p1, .int p2, .ref ou]) (n := 5) (Nat.le_of_ble_eq_true rfl)
  rw [lg_entry_eq]
  generalize (lg_sl ([.ref o, .int p1, .int p2, .ref ou]) ++ List.replicate (5 - (lg_sl ([.ref o, .int p1, .int p2, .ref ou])).length) Slot.unset).toArray = ls at hl ⊢
  have hl : lv_has ls 5 [(0, .ref o), (1, .int p1), (2, .int p2), (3, .ref ou)] := hl
  obtain ⟨hH9, ⟨lab, nm, rf, hV, hl9, hIQ, hz, ho⟩, o0, hO⟩ := hI
  subst hH9
  subst hz
  subst ho
  have hS : va_S (fun q => A q ∨ q = ou) s.heap s.heap [] := va_S.rf
  refine lv_aload_n hx hb dL_changedAt_0 rfl (lv_at hl 3 rfl) ?_
  refine lv_iconst (v := 0) hx hb dL_changedAt_1 (by decide) ?_
  refine lv_aload_n hx hb dL_changedAt_2 rfl (lv_at hl 0 rfl) ?_
  refine lv_iload_n hx hb dL_changedAt_3 rfl (lv_at hl 1 rfl) ?_
  refine lv_iload_n hx hb dL_changedAt_4 rfl (lv_at hl 2 rfl) ?_
  refine xl_call (vx_runV (As := [.int p1, .int p2]) (rest := [.int 0, .ref ou]) ⟨hx, hb, hml, hown, hts⟩ (c_X6_changedAt l hst D cA lab nm rf f nC nL nV hi A hl9 s.heap p1 p2) (cwV 2 hts gL_changedAt_X6_changedAt rfl rfl rfl (by decide +kernel) ⟨Nat.le_of_ble_eq_true rfl, Nat.le_of_ble_eq_true rfl⟩) (xPXV hK pK.blind (fun U hU hW => hX.1.at hS (fun _ h => Or.inl h) hU hW) hV.1 rfl ⟨rfl, hV, hIQ⟩) rfl rfl hl.1 rfl (lv_room (Nat.le_of_ble_eq_true rfl)) dL_changedAt_5 ⟨Nat.le_of_ble_eq_true rfl, Nat.le_of_ble_eq_true rfl⟩) hS (fun _ _ h => Or.inl h) (fun _ h => Or.inl h) (fun hk0 ce q9 H locs hQ z9 qf hS g1 g2 g3 => ?_) (fun hk0 H locs hP z9 qf hS => ?_)
  · have hO := x_kept hO (qf _ (q_lt hO) hou)
    have hk := (kr_kCe nL p1 p2).resolve_left hk0
    have g4 : s.vm.findClass "java/lang/IndexOutOfBoundsException" = some ce.cls := by (try rw [hk] at g3); exact g3
    refine vx_catch hown [] ⟨0, 10, 13, 21⟩ [] (by rw [htab]; rfl) (fun z hz => by cases hz) (by decide) (by decide) (hts (.classLink RL 21 "java/lang/IndexOutOfBoundsException") (by decide +kernel)) (va_Nw.use rfl (hX.1.2.2.2.2.2.2.2.2.2.2 _ (by decide))) g1 g2 g4 ?_
    refine W.eq (g2 := F0 m 13 ls [.ref q9]) rfl ?_
    refine lv_astore (lv' := [(4, .ref q9), (0, .ref (nm 0 0)), (1, .int p1), (2, .int p2), (3, .ref ou)]) hx hb dL_changedAt_13 hl (by decide) rfl (fun ls hl => ?_)
    refine lv_iconst (v := 1) hx hb dL_changedAt_15 (by decide) ?_
    exact xw_iret hx hb hr hlocks hS ⟨by rw [hk], Or.inr ⟨hk0, hQ, _, hO⟩⟩ (Nat.le_of_ble_eq_true rfl) (Nat.le_of_ble_eq_true rfl) dL_changedAt_16
  · have hO := x_kept hO (qf _ (q_lt hO) hou)
    refine lv_i2l hx hb dL_changedAt_8 rfl ?_
    have hPl := hP
    refine x_last hx hb hK hO hS (Or.inr rfl) 0 rfl (by omega) (by decide) dL_changedAt_9 (fun H locs hO z8 q8 hS => ?_)
    have hP := hPl.same (fun q h1 h2 => q8 q (fun e => hou (by rw [← e]; exact h2)))
    refine lv_goto (tgt := 17) hx hb dL_changedAt_10 (by decide) ?_
    refine lv_iconst (v := 0) hx hb dL_changedAt_17 (by decide) ?_
    exact xw_iret hx hb hr hlocks hS ⟨by rw [hk0], Or.inl ⟨hk0, hP, hO⟩⟩ (Nat.le_of_ble_eq_true rfl) (Nat.le_of_ble_eq_true rfl) dL_changedAt_18
set_option maxHeartbeats 4000000 in
set_option maxRecDepth 100000 in
theorem c_L_rollback (l : Launch) (hst : l.stackTraces = false) (D : va_G) (cA : Nat → ClassId) (A : Nat → Prop) (z o ou : Nat) (f : Nat → Nat → Int32) (nC nL nV : Nat) (hi : CRi f nC nL nV) (H9 : Heap) (p1 : Int32) (p2 : Int32) (hou : ¬ A ou) (hAn : ∀ q, H9.size ≤ q → A q) : Met l yL_rollback wsL_rollback (rmK 42 5 1020) (xPX D cA (fun U => lK (fun q => A q ∨ q = ou) z U) [.ref o, .int p1, .int p2, .ref ou] (fun H => H = H9 ∧ CS D cA A z o f nC nL nV H ∧ ∃ o0, xL (cA 1) ou 1 o0 H)) (xW (lJ cA ou (kRo (mS f) nV p1 p2) ((nI (cntF (difF f (ix p1)) 128)).toInt64) (CS D cA A z o (if cntF (difF f (ix p1)) 128 = 0 then f else (rollS (mS f) nV (ix p1)).2.1) nC nL (if cntF (difF f (ix p1)) 128 = 0 then nV else nV + 1)) (CS D cA A z o f nC nL nV)) (fun q => A q ∨ q = ou)) 5 1020 (fun q => A q ∨ q = ou) := by
  refine va_MetW (cc := cL_rollback) (maxL := 5) (ret := (some .int)) (hh := [(0, 10, 13, 21), (0, 10, 17, 13), (0, 10, 21, 15)]) (by decide) rfl ?_
  intro p e s m args below meth c s₁ B hml hv
  obtain ⟨rfl, ⟨hK, hX⟩, hI⟩ := hv
  have hx := B.exec
  have hb := B.bytes
  have hr := B.returns
  have hts := atoms_spec (ws := wsL_rollback) B.pre
  have hown : s.vm.findClass RL = some m.cls := findClass_of_methodNamed B.named
  have hlocks := B.notSynchronized
  have htab := vx_table (x := yL_rollback) B (hts (.codeWith yL_rollback cL_rollback 5 (some .int) [(0, 10, 13, 21), (0, 10, 17, 13), (0, 10, 21, 15)]) List.mem_cons_self)
  have hl := lv_entry ([.ref o, .int p1, .int p2, .ref ou]) (n := 5) (Nat.le_of_ble_eq_true rfl)
  rw [lg_entry_eq]
  generalize (lg_sl ([.ref o, .int p1, .int p2, .ref ou]) ++ List.replicate (5 - (lg_sl ([.ref o, .int p1, .int p2, .ref ou])).length) Slot.unset).toArray = ls at hl ⊢
  have hl : lv_has ls 5 [(0, .ref o), (1, .int p1), (2, .int p2), (3, .ref ou)] := hl
  obtain ⟨hH9, ⟨lab, nm, rf, hV, hl9, hIQ, hz, ho⟩, o0, hO⟩ := hI
  subst hH9
  subst hz
  subst ho
  have hS : va_S (fun q => A q ∨ q = ou) s.heap s.heap [] := va_S.rf
  refine lv_aload_n hx hb dL_rollback_0 rfl (lv_at hl 3 rfl) ?_
  refine lv_iconst (v := 0) hx hb dL_rollback_1 (by decide) ?_
  refine lv_aload_n hx hb dL_rollback_2 rfl (lv_at hl 0 rfl) ?_
  refine lv_iload_n hx hb dL_rollback_3 rfl (lv_at hl 1 rfl) ?_
  refine lv_iload_n hx hb dL_rollback_4 rfl (lv_at hl 2 rfl) ?_
  refine xl_call (vx_runV (As := [.int p1, .int p2]) (rest := [.int 0, .ref ou]) ⟨hx, hb, hml, hown, hts⟩ (c_X6_rollback l hst D cA lab nm rf f nC nL nV hi A hl9 s.heap p1 p2 hAn) (cwV 2 hts gL_rollback_X6_rollback rfl rfl rfl (by decide +kernel) ⟨Nat.le_of_ble_eq_true rfl, Nat.le_of_ble_eq_true rfl⟩) (xPXV hK pK.blind (fun U hU hW => hX.1.at hS (fun _ h => Or.inl h) hU hW) hV.1 rfl ⟨rfl, hV, hIQ⟩) rfl rfl hl.1 rfl (lv_room (Nat.le_of_ble_eq_true rfl)) dL_rollback_5 ⟨Nat.le_of_ble_eq_true rfl, Nat.le_of_ble_eq_true rfl⟩) hS (fun _ _ h => Or.inl h) (fun _ h => Or.inl h) (fun hk0 ce q9 H locs hQ z9 qf hS g1 g2 g3 => ?_) (fun hk0 H locs hP z9 qf hS => ?_)
  · have hO := x_kept hO (qf _ (q_lt hO) hou)
    rcases (kr_kRo (mS f) nV p1 p2).resolve_left hk0 with hk | hk | hk
    · have g4 : s.vm.findClass "java/lang/IndexOutOfBoundsException" = some ce.cls := by (try rw [hk] at g3); exact g3
      refine vx_catch hown [] ⟨0, 10, 13, 21⟩ [⟨0, 10, 17, 13⟩, ⟨0, 10, 21, 15⟩] (by rw [htab]; rfl) (fun z hz => by cases hz) (by decide) (by decide) (hts (.classLink RL 21 "java/lang/IndexOutOfBoundsException") (by decide +kernel)) (va_Nw.use rfl (hX.1.2.2.2.2.2.2.2.2.2.2 _ (by decide))) g1 g2 g4 ?_
      refine W.eq (g2 := F0 m 13 ls [.ref q9]) rfl ?_
      refine lv_astore (lv' := [(4, .ref q9), (0, .ref (nm 0 0)), (1, .int p1), (2, .int p2), (3, .ref ou)]) hx hb dL_rollback_13 hl (by decide) rfl (fun ls hl => ?_)
      refine lv_iconst (v := 1) hx hb dL_rollback_15 (by decide) ?_
      exact xw_iret hx hb hr hlocks hS ⟨by rw [hk], Or.inr ⟨hk0, hQ, _, hO⟩⟩ (Nat.le_of_ble_eq_true rfl) (Nat.le_of_ble_eq_true rfl) dL_rollback_16
    · have g4 : s.vm.findClass "java/lang/IllegalArgumentException" = some ce.cls := by (try rw [hk] at g3); exact g3
      refine vx_catch hown [⟨0, 10, 13, 21⟩] ⟨0, 10, 17, 13⟩ [⟨0, 10, 21, 15⟩] (by rw [htab]; rfl) (fun z hz => by
          simp only [List.mem_cons, List.not_mem_nil, or_false] at hz
          subst hz
          exact Or.inr ⟨by decide, "java/lang/IndexOutOfBoundsException", hts (.classLink RL 21 "java/lang/IndexOutOfBoundsException") (by decide +kernel), hX.2 _ (by decide) _ (by decide) (by decide)⟩) (by decide) (by decide) (hts (.classLink RL 13 "java/lang/IllegalArgumentException") (by decide +kernel)) (va_Nw.use rfl (hX.1.2.2.2.2.2.2.2.2.2.2 _ (by decide))) g1 g2 g4 ?_
      refine W.eq (g2 := F0 m 17 ls [.ref q9]) rfl ?_
      refine lv_astore (lv' := [(4, .ref q9), (0, .ref (nm 0 0)), (1, .int p1), (2, .int p2), (3, .ref ou)]) hx hb dL_rollback_17 hl (by decide) rfl (fun ls hl => ?_)
      refine lv_iconst (v := 2) hx hb dL_rollback_19 (by decide) ?_
      exact xw_iret hx hb hr hlocks hS ⟨by rw [hk], Or.inr ⟨hk0, hQ, _, hO⟩⟩ (Nat.le_of_ble_eq_true rfl) (Nat.le_of_ble_eq_true rfl) dL_rollback_20
    · have g4 : s.vm.findClass "java/lang/IllegalStateException" = some ce.cls := by (try rw [hk] at g3); exact g3
      refine vx_catch hown [⟨0, 10, 13, 21⟩, ⟨0, 10, 17, 13⟩] ⟨0, 10, 21, 15⟩ [] (by rw [htab]; rfl) (fun z hz => by
          simp only [List.mem_cons, List.not_mem_nil, or_false] at hz
          rcases hz with rfl | rfl
          · exact Or.inr ⟨by decide, "java/lang/IndexOutOfBoundsException", hts (.classLink RL 21 "java/lang/IndexOutOfBoundsException") (by decide +kernel), hX.2 _ (by decide) _ (by decide) (by decide)⟩
          · exact Or.inr ⟨by decide, "java/lang/IllegalArgumentException", hts (.classLink RL 13 "java/lang/IllegalArgumentException") (by decide +kernel), hX.2 _ (by decide) _ (by decide) (by decide)⟩) (by decide) (by decide) (hts (.classLink RL 15 "java/lang/IllegalStateException") (by decide +kernel)) (va_Nw.use rfl (hX.1.2.2.2.2.2.2.2.2.2.2 _ (by decide))) g1 g2 g4 ?_
      refine W.eq (g2 := F0 m 21 ls [.ref q9]) rfl ?_
      refine lv_astore (lv' := [(4, .ref q9), (0, .ref (nm 0 0)), (1, .int p1), (2, .int p2), (3, .ref ou)]) hx hb dL_rollback_21 hl (by decide) rfl (fun ls hl => ?_)
      refine lv_iconst (v := 3) hx hb dL_rollback_23 (by decide) ?_
      exact xw_iret hx hb hr hlocks hS ⟨by rw [hk], Or.inr ⟨hk0, hQ, _, hO⟩⟩ (Nat.le_of_ble_eq_true rfl) (Nat.le_of_ble_eq_true rfl) dL_rollback_24
  · have hO := x_kept hO (qf _ (q_lt hO) hou)
    refine lv_i2l hx hb dL_rollback_8 rfl ?_
    have hPl := hP
    refine x_last hx hb hK hO hS (Or.inr rfl) 0 rfl (by omega) (by decide) dL_rollback_9 (fun H locs hO z8 q8 hS => ?_)
    have hP := hPl.same (fun q h1 h2 => q8 q (fun e => hou (by rw [← e]; exact h2)))
    refine lv_goto (tgt := 25) hx hb dL_rollback_10 (by decide) ?_
    refine lv_iconst (v := 0) hx hb dL_rollback_25 (by decide) ?_
    exact xw_iret hx hb hr hlocks hS ⟨by rw [hk0], Or.inl ⟨hk0, hP, hO⟩⟩ (Nat.le_of_ble_eq_true rfl) (Nat.le_of_ble_eq_true rfl) dL_rollback_26
set_option maxHeartbeats 4000000 in
set_option maxRecDepth 100000 in
theorem c_L_value (l : Launch) (hst : l.stackTraces = false) (D : va_G) (cA : Nat → ClassId) (A : Nat → Prop) (z o ou : Nat) (f : Nat → Nat → Int32) (nC nL nV : Nat) (hi : CRi f nC nL nV) (H9 : Heap) (p1 : Int32) (p2 : Int32) (hou : ¬ A ou) (hAn : ∀ q, H9.size ≤ q → A q) : Met l yL_value wsL_value (rmK 42 3 18) (xPX D cA (fun U => lK (fun q => A q ∨ q = ou) z U) [.ref o, .int p1, .int p2, .ref ou] (fun H => H = H9 ∧ CS D cA A z o f nC nL nV H ∧ ∃ o0, xL (cA 1) ou 1 o0 H)) (xW (lJ cA ou (kVa (mS f) nL nC p1 p2) (akV (akE (mS f) (ix p1) none nL (ix p2)) (ix p2)) (CS D cA A z o f nC nL nV) (CS D cA A z o f nC nL nV)) (fun q => A q ∨ q = ou)) 3 18 (fun q => A q ∨ q = ou) := by
  refine va_MetW (cc := cL_value) (maxL := 5) (ret := (some .int)) (hh := [(0, 9, 12, 21), (0, 9, 16, 15)]) (by decide) rfl ?_
  intro p e s m args below meth c s₁ B hml hv
  obtain ⟨rfl, ⟨hK, hX⟩, hI⟩ := hv
  have hx := B.exec
  have hb := B.bytes
  have hr := B.returns
  have hts := atoms_spec (ws := wsL_value) B.pre
  have hown : s.vm.findClass RL = some m.cls := findClass_of_methodNamed B.named
  have hlocks := B.notSynchronized
  have htab := vx_table (x := yL_value) B (hts (.codeWith yL_value cL_value 5 (some .int) [(0, 9, 12, 21), (0, 9, 16, 15)]) List.mem_cons_self)
  have hl := lv_entry ([.ref o, .int p1, .int p2, .ref ou]) (n := 5) (Nat.le_of_ble_eq_true rfl)
  rw [lg_entry_eq]
  generalize (lg_sl ([.ref o, .int p1, .int p2, .ref ou]) ++ List.replicate (5 - (lg_sl ([.ref o, .int p1, .int p2, .ref ou])).length) Slot.unset).toArray = ls at hl ⊢
  have hl : lv_has ls 5 [(0, .ref o), (1, .int p1), (2, .int p2), (3, .ref ou)] := hl
  obtain ⟨hH9, ⟨lab, nm, rf, hV, hl9, hIQ, hz, ho⟩, o0, hO⟩ := hI
  subst hH9
  subst hz
  subst ho
  have hS : va_S (fun q => A q ∨ q = ou) s.heap s.heap [] := va_S.rf
  refine lv_aload_n hx hb dL_value_0 rfl (lv_at hl 3 rfl) ?_
  refine lv_iconst (v := 0) hx hb dL_value_1 (by decide) ?_
  refine lv_aload_n hx hb dL_value_2 rfl (lv_at hl 0 rfl) ?_
  refine lv_iload_n hx hb dL_value_3 rfl (lv_at hl 1 rfl) ?_
  refine lv_iload_n hx hb dL_value_4 rfl (lv_at hl 2 rfl) ?_
  refine xl_call (vx_runV (As := [.int p1, .int p2]) (rest := [.int 0, .ref ou]) ⟨hx, hb, hml, hown, hts⟩ (c_X6_value l hst D cA lab nm rf f nC nL nV hi A hl9 s.heap p1 p2) (cwV 2 hts gL_value_X6_value rfl rfl rfl (by decide +kernel) ⟨Nat.le_of_ble_eq_true rfl, Nat.le_of_ble_eq_true rfl⟩) (xPXV hK pK.blind (fun U hU hW => hX.1.at hS (fun _ h => Or.inl h) hU hW) hV.1 rfl ⟨rfl, hV, hIQ⟩) rfl rfl hl.1 rfl (lv_room (Nat.le_of_ble_eq_true rfl)) dL_value_5 ⟨Nat.le_of_ble_eq_true rfl, Nat.le_of_ble_eq_true rfl⟩) hS (fun _ _ h => Or.inl h) (fun _ h => Or.inl h) (fun hk0 ce q9 H locs hQ z9 qf hS g1 g2 g3 => ?_) (fun hk0 H locs hP z9 qf hS => ?_)
  · have hO := x_kept hO (qf _ (q_lt hO) hou)
    rcases (kr_kVa (mS f) nL nC p1 p2).resolve_left hk0 with hk | hk
    · have g4 : s.vm.findClass "java/lang/IndexOutOfBoundsException" = some ce.cls := by (try rw [hk] at g3); exact g3
      refine vx_catch hown [] ⟨0, 9, 12, 21⟩ [⟨0, 9, 16, 15⟩] (by rw [htab]; rfl) (fun z hz => by cases hz) (by decide) (by decide) (hts (.classLink RL 21 "java/lang/IndexOutOfBoundsException") (by decide +kernel)) (va_Nw.use rfl (hX.1.2.2.2.2.2.2.2.2.2.2 _ (by decide))) g1 g2 g4 ?_
      refine W.eq (g2 := F0 m 12 ls [.ref q9]) rfl ?_
      refine lv_astore (lv' := [(4, .ref q9), (0, .ref (nm 0 0)), (1, .int p1), (2, .int p2), (3, .ref ou)]) hx hb dL_value_12 hl (by decide) rfl (fun ls hl => ?_)
      refine lv_iconst (v := 1) hx hb dL_value_14 (by decide) ?_
      exact xw_iret hx hb hr hlocks hS ⟨by rw [hk], Or.inr ⟨hk0, hQ, _, hO⟩⟩ (Nat.le_of_ble_eq_true rfl) (Nat.le_of_ble_eq_true rfl) dL_value_15
    · have g4 : s.vm.findClass "java/lang/IllegalStateException" = some ce.cls := by (try rw [hk] at g3); exact g3
      refine vx_catch hown [⟨0, 9, 12, 21⟩] ⟨0, 9, 16, 15⟩ [] (by rw [htab]; rfl) (fun z hz => by
          simp only [List.mem_cons, List.not_mem_nil, or_false] at hz
          subst hz
          exact Or.inr ⟨by decide, "java/lang/IndexOutOfBoundsException", hts (.classLink RL 21 "java/lang/IndexOutOfBoundsException") (by decide +kernel), hX.2 _ (by decide) _ (by decide) (by decide)⟩) (by decide) (by decide) (hts (.classLink RL 15 "java/lang/IllegalStateException") (by decide +kernel)) (va_Nw.use rfl (hX.1.2.2.2.2.2.2.2.2.2.2 _ (by decide))) g1 g2 g4 ?_
      refine W.eq (g2 := F0 m 16 ls [.ref q9]) rfl ?_
      refine lv_astore (lv' := [(4, .ref q9), (0, .ref (nm 0 0)), (1, .int p1), (2, .int p2), (3, .ref ou)]) hx hb dL_value_16 hl (by decide) rfl (fun ls hl => ?_)
      refine lv_iconst (v := 2) hx hb dL_value_18 (by decide) ?_
      exact xw_iret hx hb hr hlocks hS ⟨by rw [hk], Or.inr ⟨hk0, hQ, _, hO⟩⟩ (Nat.le_of_ble_eq_true rfl) (Nat.le_of_ble_eq_true rfl) dL_value_19
  · have hO := x_kept hO (qf _ (q_lt hO) hou)
    have hPl := hP
    refine x_last hx hb hK hO hS (Or.inr rfl) 0 rfl (by omega) (by decide) dL_value_8 (fun H locs hO z8 q8 hS => ?_)
    have hP := hPl.same (fun q h1 h2 => q8 q (fun e => hou (by rw [← e]; exact h2)))
    refine lv_goto (tgt := 20) hx hb dL_value_9 (by decide) ?_
    refine lv_iconst (v := 0) hx hb dL_value_20 (by decide) ?_
    exact xw_iret hx hb hr hlocks hS ⟨by rw [hk0], Or.inl ⟨hk0, hP, hO⟩⟩ (Nat.le_of_ble_eq_true rfl) (Nat.le_of_ble_eq_true rfl) dL_value_21
set_option maxHeartbeats 4000000 in
set_option maxRecDepth 100000 in
theorem c_L_status (l : Launch) (hst : l.stackTraces = false) (D : va_G) (cA : Nat → ClassId) (A : Nat → Prop) (z o ou : Nat) (f : Nat → Nat → Int32) (nC nL nV : Nat) (hi : CRi f nC nL nV) (H9 : Heap) (p1 : Int32) (p2 : Int32) (hou : ¬ A ou) (hAn : ∀ q, H9.size ≤ q → A q) : Met l yL_status wsL_status (rmK 42 3 18) (xPX D cA (fun U => lK (fun q => A q ∨ q = ou) z U) [.ref o, .int p1, .int p2, .ref ou] (fun H => H = H9 ∧ CS D cA A z o f nC nL nV H ∧ ∃ o0, xL (cA 1) ou 1 o0 H)) (xW (lJ cA ou (kFo nC p1 p2) ((akT (akE (mS f) (ix p1) none nL (ix p2))).toInt64) (CS D cA A z o f nC nL nV) (CS D cA A z o f nC nL nV)) (fun q => A q ∨ q = ou)) 3 18 (fun q => A q ∨ q = ou) := by
  refine va_MetW (cc := cL_status) (maxL := 5) (ret := (some .int)) (hh := [(0, 10, 13, 21)]) (by decide) rfl ?_
  intro p e s m args below meth c s₁ B hml hv
  obtain ⟨rfl, ⟨hK, hX⟩, hI⟩ := hv
  have hx := B.exec
  have hb := B.bytes
  have hr := B.returns
  have hts := atoms_spec (ws := wsL_status) B.pre
  have hown : s.vm.findClass RL = some m.cls := findClass_of_methodNamed B.named
  have hlocks := B.notSynchronized
  have htab := vx_table (x := yL_status) B (hts (.codeWith yL_status cL_status 5 (some .int) [(0, 10, 13, 21)]) List.mem_cons_self)
  have hl := lv_entry ([.ref o, .int p1, .int p2, .ref ou]) (n := 5) (Nat.le_of_ble_eq_true rfl)
  rw [lg_entry_eq]
  generalize (lg_sl ([.ref o, .int p1, .int p2, .ref ou]) ++ List.replicate (5 - (lg_sl ([.ref o, .int p1, .int p2, .ref ou])).length) Slot.unset).toArray = ls at hl ⊢
  have hl : lv_has ls 5 [(0, .ref o), (1, .int p1), (2, .int p2), (3, .ref ou)] := hl
  obtain ⟨hH9, ⟨lab, nm, rf, hV, hl9, hIQ, hz, ho⟩, o0, hO⟩ := hI
  subst hH9
  subst hz
  subst ho
  have hS : va_S (fun q => A q ∨ q = ou) s.heap s.heap [] := va_S.rf
  refine lv_aload_n hx hb dL_status_0 rfl (lv_at hl 3 rfl) ?_
  refine lv_iconst (v := 0) hx hb dL_status_1 (by decide) ?_
  refine lv_aload_n hx hb dL_status_2 rfl (lv_at hl 0 rfl) ?_
  refine lv_iload_n hx hb dL_status_3 rfl (lv_at hl 1 rfl) ?_
  refine lv_iload_n hx hb dL_status_4 rfl (lv_at hl 2 rfl) ?_
  refine xl_call (vx_runV (As := [.int p1, .int p2]) (rest := [.int 0, .ref ou]) ⟨hx, hb, hml, hown, hts⟩ (c_X6_status l hst D cA lab nm rf f nC nL nV hi A hl9 s.heap p1 p2) (cwV 2 hts gL_status_X6_status rfl rfl rfl (by decide +kernel) ⟨Nat.le_of_ble_eq_true rfl, Nat.le_of_ble_eq_true rfl⟩) (xPXV hK pK.blind (fun U hU hW => hX.1.at hS (fun _ h => Or.inl h) hU hW) hV.1 rfl ⟨rfl, hV, hIQ⟩) rfl rfl hl.1 rfl (lv_room (Nat.le_of_ble_eq_true rfl)) dL_status_5 ⟨Nat.le_of_ble_eq_true rfl, Nat.le_of_ble_eq_true rfl⟩) hS (fun _ _ h => Or.inl h) (fun _ h => Or.inl h) (fun hk0 ce q9 H locs hQ z9 qf hS g1 g2 g3 => ?_) (fun hk0 H locs hP z9 qf hS => ?_)
  · have hO := x_kept hO (qf _ (q_lt hO) hou)
    have hk := (kr_kFo nC p1 p2).resolve_left hk0
    have g4 : s.vm.findClass "java/lang/IndexOutOfBoundsException" = some ce.cls := by (try rw [hk] at g3); exact g3
    refine vx_catch hown [] ⟨0, 10, 13, 21⟩ [] (by rw [htab]; rfl) (fun z hz => by cases hz) (by decide) (by decide) (hts (.classLink RL 21 "java/lang/IndexOutOfBoundsException") (by decide +kernel)) (va_Nw.use rfl (hX.1.2.2.2.2.2.2.2.2.2.2 _ (by decide))) g1 g2 g4 ?_
    refine W.eq (g2 := F0 m 13 ls [.ref q9]) rfl ?_
    refine lv_astore (lv' := [(4, .ref q9), (0, .ref (nm 0 0)), (1, .int p1), (2, .int p2), (3, .ref ou)]) hx hb dL_status_13 hl (by decide) rfl (fun ls hl => ?_)
    refine lv_iconst (v := 1) hx hb dL_status_15 (by decide) ?_
    exact xw_iret hx hb hr hlocks hS ⟨by rw [hk], Or.inr ⟨hk0, hQ, _, hO⟩⟩ (Nat.le_of_ble_eq_true rfl) (Nat.le_of_ble_eq_true rfl) dL_status_16
  · have hO := x_kept hO (qf _ (q_lt hO) hou)
    refine lv_i2l hx hb dL_status_8 rfl ?_
    have hPl := hP
    refine x_last hx hb hK hO hS (Or.inr rfl) 0 rfl (by omega) (by decide) dL_status_9 (fun H locs hO z8 q8 hS => ?_)
    have hP := hPl.same (fun q h1 h2 => q8 q (fun e => hou (by rw [← e]; exact h2)))
    refine lv_goto (tgt := 17) hx hb dL_status_10 (by decide) ?_
    refine lv_iconst (v := 0) hx hb dL_status_17 (by decide) ?_
    exact xw_iret hx hb hr hlocks hS ⟨by rw [hk0], Or.inl ⟨hk0, hP, hO⟩⟩ (Nat.le_of_ble_eq_true rfl) (Nat.le_of_ble_eq_true rfl) dL_status_18
set_option maxHeartbeats 4000000 in
set_option maxRecDepth 100000 in
theorem c_L_culprit (l : Launch) (hst : l.stackTraces = false) (D : va_G) (cA : Nat → ClassId) (A : Nat → Prop) (z o ou : Nat) (f : Nat → Nat → Int32) (nC nL nV : Nat) (hi : CRi f nC nL nV) (H9 : Heap) (p1 : Int32) (p2 : Int32) (hou : ¬ A ou) (hAn : ∀ q, H9.size ≤ q → A q) : Met l yL_culprit wsL_culprit (rmK 42 3 18) (xPX D cA (fun U => lK (fun q => A q ∨ q = ou) z U) [.ref o, .int p1, .int p2, .ref ou] (fun H => H = H9 ∧ CS D cA A z o f nC nL nV H ∧ ∃ o0, xL (cA 1) ou 1 o0 H)) (xW (lJ cA ou (kFo nC p1 p2) ((akQ (akE (mS f) (ix p1) none nL (ix p2))).toInt64) (CS D cA A z o f nC nL nV) (CS D cA A z o f nC nL nV)) (fun q => A q ∨ q = ou)) 3 18 (fun q => A q ∨ q = ou) := by
  refine va_MetW (cc := cL_culprit) (maxL := 5) (ret := (some .int)) (hh := [(0, 10, 13, 21)]) (by decide) rfl ?_
  intro p e s m args below meth c s₁ B hml hv
  obtain ⟨rfl, ⟨hK, hX⟩, hI⟩ := hv
  have hx := B.exec
  have hb := B.bytes
  have hr := B.returns
  have hts := atoms_spec (ws := wsL_culprit) B.pre
  have hown : s.vm.findClass RL = some m.cls := findClass_of_methodNamed B.named
  have hlocks := B.notSynchronized
  have htab := vx_table (x := yL_culprit) B (hts (.codeWith yL_culprit cL_culprit 5 (some .int) [(0, 10, 13, 21)]) List.mem_cons_self)
  have hl := lv_entry ([.ref o, .int p1, .int p2, .ref ou]) (n := 5) (Nat.le_of_ble_eq_true rfl)
  rw [lg_entry_eq]
  generalize (lg_sl ([.ref o, .int p1, .int p2, .ref ou]) ++ List.replicate (5 - (lg_sl ([.ref o, .int p1, .int p2, .ref ou])).length) Slot.unset).toArray = ls at hl ⊢
  have hl : lv_has ls 5 [(0, .ref o), (1, .int p1), (2, .int p2), (3, .ref ou)] := hl
  obtain ⟨hH9, ⟨lab, nm, rf, hV, hl9, hIQ, hz, ho⟩, o0, hO⟩ := hI
  subst hH9
  subst hz
  subst ho
  have hS : va_S (fun q => A q ∨ q = ou) s.heap s.heap [] := va_S.rf
  refine lv_aload_n hx hb dL_culprit_0 rfl (lv_at hl 3 rfl) ?_
  refine lv_iconst (v := 0) hx hb dL_culprit_1 (by decide) ?_
  refine lv_aload_n hx hb dL_culprit_2 rfl (lv_at hl 0 rfl) ?_
  refine lv_iload_n hx hb dL_culprit_3 rfl (lv_at hl 1 rfl) ?_
  refine lv_iload_n hx hb dL_culprit_4 rfl (lv_at hl 2 rfl) ?_
  refine xl_call (vx_runV (As := [.int p1, .int p2]) (rest := [.int 0, .ref ou]) ⟨hx, hb, hml, hown, hts⟩ (c_X6_culprit l hst D cA lab nm rf f nC nL nV hi A hl9 s.heap p1 p2) (cwV 2 hts gL_culprit_X6_culprit rfl rfl rfl (by decide +kernel) ⟨Nat.le_of_ble_eq_true rfl, Nat.le_of_ble_eq_true rfl⟩) (xPXV hK pK.blind (fun U hU hW => hX.1.at hS (fun _ h => Or.inl h) hU hW) hV.1 rfl ⟨rfl, hV, hIQ⟩) rfl rfl hl.1 rfl (lv_room (Nat.le_of_ble_eq_true rfl)) dL_culprit_5 ⟨Nat.le_of_ble_eq_true rfl, Nat.le_of_ble_eq_true rfl⟩) hS (fun _ _ h => Or.inl h) (fun _ h => Or.inl h) (fun hk0 ce q9 H locs hQ z9 qf hS g1 g2 g3 => ?_) (fun hk0 H locs hP z9 qf hS => ?_)
  · have hO := x_kept hO (qf _ (q_lt hO) hou)
    have hk := (kr_kFo nC p1 p2).resolve_left hk0
    have g4 : s.vm.findClass "java/lang/IndexOutOfBoundsException" = some ce.cls := by (try rw [hk] at g3); exact g3
    refine vx_catch hown [] ⟨0, 10, 13, 21⟩ [] (by rw [htab]; rfl) (fun z hz => by cases hz) (by decide) (by decide) (hts (.classLink RL 21 "java/lang/IndexOutOfBoundsException") (by decide +kernel)) (va_Nw.use rfl (hX.1.2.2.2.2.2.2.2.2.2.2 _ (by decide))) g1 g2 g4 ?_
    refine W.eq (g2 := F0 m 13 ls [.ref q9]) rfl ?_
    refine lv_astore (lv' := [(4, .ref q9), (0, .ref (nm 0 0)), (1, .int p1), (2, .int p2), (3, .ref ou)]) hx hb dL_culprit_13 hl (by decide) rfl (fun ls hl => ?_)
    refine lv_iconst (v := 1) hx hb dL_culprit_15 (by decide) ?_
    exact xw_iret hx hb hr hlocks hS ⟨by rw [hk], Or.inr ⟨hk0, hQ, _, hO⟩⟩ (Nat.le_of_ble_eq_true rfl) (Nat.le_of_ble_eq_true rfl) dL_culprit_16
  · have hO := x_kept hO (qf _ (q_lt hO) hou)
    refine lv_i2l hx hb dL_culprit_8 rfl ?_
    have hPl := hP
    refine x_last hx hb hK hO hS (Or.inr rfl) 0 rfl (by omega) (by decide) dL_culprit_9 (fun H locs hO z8 q8 hS => ?_)
    have hP := hPl.same (fun q h1 h2 => q8 q (fun e => hou (by rw [← e]; exact h2)))
    refine lv_goto (tgt := 17) hx hb dL_culprit_10 (by decide) ?_
    refine lv_iconst (v := 0) hx hb dL_culprit_17 (by decide) ?_
    exact xw_iret hx hb hr hlocks hS ⟨by rw [hk0], Or.inl ⟨hk0, hP, hO⟩⟩ (Nat.le_of_ble_eq_true rfl) (Nat.le_of_ble_eq_true rfl) dL_culprit_18
set_option maxHeartbeats 4000000 in
set_option maxRecDepth 100000 in
theorem c_L_layerOf (l : Launch) (hst : l.stackTraces = false) (D : va_G) (cA : Nat → ClassId) (A : Nat → Prop) (z o ou : Nat) (f : Nat → Nat → Int32) (nC nL nV : Nat) (hi : CRi f nC nL nV) (H9 : Heap) (p1 : Int32) (p2 : Int32) (hou : ¬ A ou) (hAn : ∀ q, H9.size ≤ q → A q) : Met l yL_layerOf wsL_layerOf (rmK 42 3 18) (xPX D cA (fun U => lK (fun q => A q ∨ q = ou) z U) [.ref o, .int p1, .int p2, .ref ou] (fun H => H = H9 ∧ CS D cA A z o f nC nL nV H ∧ ∃ o0, xL (cA 1) ou 1 o0 H)) (xW (lJ cA ou (kFo nC p1 p2) ((loI (decO f (ix p1) (ix p2) none nL)).toInt64) (CS D cA A z o f nC nL nV) (CS D cA A z o f nC nL nV)) (fun q => A q ∨ q = ou)) 3 18 (fun q => A q ∨ q = ou) := by
  refine va_MetW (cc := cL_layerOf) (maxL := 5) (ret := (some .int)) (hh := [(0, 10, 13, 21)]) (by decide) rfl ?_
  intro p e s m args below meth c s₁ B hml hv
  obtain ⟨rfl, ⟨hK, hX⟩, hI⟩ := hv
  have hx := B.exec
  have hb := B.bytes
  have hr := B.returns
  have hts := atoms_spec (ws := wsL_layerOf) B.pre
  have hown : s.vm.findClass RL = some m.cls := findClass_of_methodNamed B.named
  have hlocks := B.notSynchronized
  have htab := vx_table (x := yL_layerOf) B (hts (.codeWith yL_layerOf cL_layerOf 5 (some .int) [(0, 10, 13, 21)]) List.mem_cons_self)
  have hl := lv_entry ([.ref o, .int p1, .int p2, .ref ou]) (n := 5) (Nat.le_of_ble_eq_true rfl)
  rw [lg_entry_eq]
  generalize (lg_sl ([.ref o, .int p1, .int p2, .ref ou]) ++ List.replicate (5 - (lg_sl ([.ref o, .int p1, .int p2, .ref ou])).length) Slot.unset).toArray = ls at hl ⊢
  have hl : lv_has ls 5 [(0, .ref o), (1, .int p1), (2, .int p2), (3, .ref ou)] := hl
  obtain ⟨hH9, ⟨lab, nm, rf, hV, hl9, hIQ, hz, ho⟩, o0, hO⟩ := hI
  subst hH9
  subst hz
  subst ho
  have hS : va_S (fun q => A q ∨ q = ou) s.heap s.heap [] := va_S.rf
  refine lv_aload_n hx hb dL_layerOf_0 rfl (lv_at hl 3 rfl) ?_
  refine lv_iconst (v := 0) hx hb dL_layerOf_1 (by decide) ?_
  refine lv_aload_n hx hb dL_layerOf_2 rfl (lv_at hl 0 rfl) ?_
  refine lv_iload_n hx hb dL_layerOf_3 rfl (lv_at hl 1 rfl) ?_
  refine lv_iload_n hx hb dL_layerOf_4 rfl (lv_at hl 2 rfl) ?_
  refine xl_call (vx_runV (As := [.int p1, .int p2]) (rest := [.int 0, .ref ou]) ⟨hx, hb, hml, hown, hts⟩ (c_X6_layerOf l hst D cA lab nm rf f nC nL nV hi A hl9 s.heap p1 p2) (cwV 2 hts gL_layerOf_X6_layerOf rfl rfl rfl (by decide +kernel) ⟨Nat.le_of_ble_eq_true rfl, Nat.le_of_ble_eq_true rfl⟩) (xPXV hK pK.blind (fun U hU hW => hX.1.at hS (fun _ h => Or.inl h) hU hW) hV.1 rfl ⟨rfl, hV, hIQ⟩) rfl rfl hl.1 rfl (lv_room (Nat.le_of_ble_eq_true rfl)) dL_layerOf_5 ⟨Nat.le_of_ble_eq_true rfl, Nat.le_of_ble_eq_true rfl⟩) hS (fun _ _ h => Or.inl h) (fun _ h => Or.inl h) (fun hk0 ce q9 H locs hQ z9 qf hS g1 g2 g3 => ?_) (fun hk0 H locs hP z9 qf hS => ?_)
  · have hO := x_kept hO (qf _ (q_lt hO) hou)
    have hk := (kr_kFo nC p1 p2).resolve_left hk0
    have g4 : s.vm.findClass "java/lang/IndexOutOfBoundsException" = some ce.cls := by (try rw [hk] at g3); exact g3
    refine vx_catch hown [] ⟨0, 10, 13, 21⟩ [] (by rw [htab]; rfl) (fun z hz => by cases hz) (by decide) (by decide) (hts (.classLink RL 21 "java/lang/IndexOutOfBoundsException") (by decide +kernel)) (va_Nw.use rfl (hX.1.2.2.2.2.2.2.2.2.2.2 _ (by decide))) g1 g2 g4 ?_
    refine W.eq (g2 := F0 m 13 ls [.ref q9]) rfl ?_
    refine lv_astore (lv' := [(4, .ref q9), (0, .ref (nm 0 0)), (1, .int p1), (2, .int p2), (3, .ref ou)]) hx hb dL_layerOf_13 hl (by decide) rfl (fun ls hl => ?_)
    refine lv_iconst (v := 1) hx hb dL_layerOf_15 (by decide) ?_
    exact xw_iret hx hb hr hlocks hS ⟨by rw [hk], Or.inr ⟨hk0, hQ, _, hO⟩⟩ (Nat.le_of_ble_eq_true rfl) (Nat.le_of_ble_eq_true rfl) dL_layerOf_16
  · have hO := x_kept hO (qf _ (q_lt hO) hou)
    refine lv_i2l hx hb dL_layerOf_8 rfl ?_
    have hPl := hP
    refine x_last hx hb hK hO hS (Or.inr rfl) 0 rfl (by omega) (by decide) dL_layerOf_9 (fun H locs hO z8 q8 hS => ?_)
    have hP := hPl.same (fun q h1 h2 => q8 q (fun e => hou (by rw [← e]; exact h2)))
    refine lv_goto (tgt := 17) hx hb dL_layerOf_10 (by decide) ?_
    refine lv_iconst (v := 0) hx hb dL_layerOf_17 (by decide) ?_
    exact xw_iret hx hb hr hlocks hS ⟨by rw [hk0], Or.inl ⟨hk0, hP, hO⟩⟩ (Nat.le_of_ble_eq_true rfl) (Nat.le_of_ble_eq_true rfl) dL_layerOf_18
set_option maxHeartbeats 4000000 in
set_option maxRecDepth 100000 in
theorem c_L_isNew (l : Launch) (hst : l.stackTraces = false) (D : va_G) (cA : Nat → ClassId) (A : Nat → Prop) (z o ou : Nat) (f : Nat → Nat → Int32) (nC nL nV : Nat) (hi : CRi f nC nL nV) (H9 : Heap) (p1 : Int32) (p2 : Int32) (hou : ¬ A ou) (hAn : ∀ q, H9.size ≤ q → A q) : Met l yL_isNew wsL_isNew (rmK 42 3 18) (xPX D cA (fun U => lK (fun q => A q ∨ q = ou) z U) [.ref o, .int p1, .int p2, .ref ou] (fun H => H = H9 ∧ CS D cA A z o f nC nL nV H ∧ ∃ o0, xL (cA 1) ou 1 o0 H)) (xW (lJ cA ou (kFo nC p1 p2) (bL (nwF f (ix p1) (ix p2) nL)) (CS D cA A z o f nC nL nV) (CS D cA A z o f nC nL nV)) (fun q => A q ∨ q = ou)) 3 18 (fun q => A q ∨ q = ou) := by
  refine va_MetW (cc := cL_isNew) (maxL := 5) (ret := (some .int)) (hh := [(0, 17, 20, 21)]) (by decide) rfl ?_
  intro p e s m args below meth c s₁ B hml hv
  obtain ⟨rfl, ⟨hK, hX⟩, hI⟩ := hv
  have hx := B.exec
  have hb := B.bytes
  have hr := B.returns
  have hts := atoms_spec (ws := wsL_isNew) B.pre
  have hown : s.vm.findClass RL = some m.cls := findClass_of_methodNamed B.named
  have hlocks := B.notSynchronized
  have htab := vx_table (x := yL_isNew) B (hts (.codeWith yL_isNew cL_isNew 5 (some .int) [(0, 17, 20, 21)]) List.mem_cons_self)
  have hl := lv_entry ([.ref o, .int p1, .int p2, .ref ou]) (n := 5) (Nat.le_of_ble_eq_true rfl)
  rw [lg_entry_eq]
  generalize (lg_sl ([.ref o, .int p1, .int p2, .ref ou]) ++ List.replicate (5 - (lg_sl ([.ref o, .int p1, .int p2, .ref ou])).length) Slot.unset).toArray = ls at hl ⊢
  have hl : lv_has ls 5 [(0, .ref o), (1, .int p1), (2, .int p2), (3, .ref ou)] := hl
  obtain ⟨hH9, ⟨lab, nm, rf, hV, hl9, hIQ, hz, ho⟩, o0, hO⟩ := hI
  subst hH9
  subst hz
  subst ho
  have hS : va_S (fun q => A q ∨ q = ou) s.heap s.heap [] := va_S.rf
  refine lv_aload_n hx hb dL_isNew_0 rfl (lv_at hl 3 rfl) ?_
  refine lv_iconst (v := 0) hx hb dL_isNew_1 (by decide) ?_
  refine lv_aload_n hx hb dL_isNew_2 rfl (lv_at hl 0 rfl) ?_
  refine lv_iload_n hx hb dL_isNew_3 rfl (lv_at hl 1 rfl) ?_
  refine lv_iload_n hx hb dL_isNew_4 rfl (lv_at hl 2 rfl) ?_
  refine xl_call (vx_runV (As := [.int p1, .int p2]) (rest := [.int 0, .ref ou]) ⟨hx, hb, hml, hown, hts⟩ (c_X6_isNew l hst D cA lab nm rf f nC nL nV hi A hl9 s.heap p1 p2) (cwV 2 hts gL_isNew_X6_isNew rfl rfl rfl (by decide +kernel) ⟨Nat.le_of_ble_eq_true rfl, Nat.le_of_ble_eq_true rfl⟩) (xPXV hK pK.blind (fun U hU hW => hX.1.at hS (fun _ h => Or.inl h) hU hW) hV.1 rfl ⟨rfl, hV, hIQ⟩) rfl rfl hl.1 rfl (lv_room (Nat.le_of_ble_eq_true rfl)) dL_isNew_5 ⟨Nat.le_of_ble_eq_true rfl, Nat.le_of_ble_eq_true rfl⟩) hS (fun _ _ h => Or.inl h) (fun _ h => Or.inl h) (fun hk0 ce q9 H locs hQ z9 qf hS g1 g2 g3 => ?_) (fun hk0 H locs hP z9 qf hS => ?_)
  · have hO := x_kept hO (qf _ (q_lt hO) hou)
    have hk := (kr_kFo nC p1 p2).resolve_left hk0
    have g4 : s.vm.findClass "java/lang/IndexOutOfBoundsException" = some ce.cls := by (try rw [hk] at g3); exact g3
    refine vx_catch hown [] ⟨0, 17, 20, 21⟩ [] (by rw [htab]; rfl) (fun z hz => by cases hz) (by decide) (by decide) (hts (.classLink RL 21 "java/lang/IndexOutOfBoundsException") (by decide +kernel)) (va_Nw.use rfl (hX.1.2.2.2.2.2.2.2.2.2.2 _ (by decide))) g1 g2 g4 ?_
    refine W.eq (g2 := F0 m 20 ls [.ref q9]) rfl ?_
    refine lv_astore (lv' := [(4, .ref q9), (0, .ref (nm 0 0)), (1, .int p1), (2, .int p2), (3, .ref ou)]) hx hb dL_isNew_20 hl (by decide) rfl (fun ls hl => ?_)
    refine lv_iconst (v := 1) hx hb dL_isNew_22 (by decide) ?_
    exact xw_iret hx hb hr hlocks hS ⟨by rw [hk], Or.inr ⟨hk0, hQ, _, hO⟩⟩ (Nat.le_of_ble_eq_true rfl) (Nat.le_of_ble_eq_true rfl) dL_isNew_23
  · have hO := x_kept hO (qf _ (q_lt hO) hou)
    refine xb_eq (tgt := 15) hx hb dL_isNew_8 (by decide) (fun c_1 => ?_) (fun c_1 => ?_)
    · refine lv_lconst (v := 0) hx hb dL_isNew_15 (by decide) ?_
      have hPl := hP
      refine x_last hx hb hK hO hS (Or.inr rfl) 0 rfl (by omega) (by decide) dL_isNew_16 (fun H locs hO z8 q8 hS => ?_)
      have hP := hPl.same (fun q h1 h2 => q8 q (fun e => hou (by rw [← e]; exact h2)))
      refine lv_goto (tgt := 24) hx hb dL_isNew_17 (by decide) ?_
      refine lv_iconst (v := 0) hx hb dL_isNew_24 (by decide) ?_
      exact xw_iret hx hb hr hlocks hS ⟨by rw [hk0], Or.inl ⟨hk0, hP, (by unfold bL; rw [c_1]; exact hO)⟩⟩ (Nat.le_of_ble_eq_true rfl) (Nat.le_of_ble_eq_true rfl) dL_isNew_25
    · refine lv_lconst (v := 1) hx hb dL_isNew_11 (by decide) ?_
      refine lv_goto (tgt := 16) hx hb dL_isNew_12 (by decide) ?_
      have hPl := hP
      refine x_last hx hb hK hO hS (Or.inr rfl) 0 rfl (by omega) (by decide) dL_isNew_16 (fun H locs hO z8 q8 hS => ?_)
      have hP := hPl.same (fun q h1 h2 => q8 q (fun e => hou (by rw [← e]; exact h2)))
      refine lv_goto (tgt := 24) hx hb dL_isNew_17 (by decide) ?_
      refine lv_iconst (v := 0) hx hb dL_isNew_24 (by decide) ?_
      exact xw_iret hx hb hr hlocks hS ⟨by rw [hk0], Or.inl ⟨hk0, hP, (by unfold bL; rw [c_1]; exact hO)⟩⟩ (Nat.le_of_ble_eq_true rfl) (Nat.le_of_ble_eq_true rfl) dL_isNew_25
set_option maxHeartbeats 4000000 in
set_option maxRecDepth 100000 in
theorem c_L_uses (l : Launch) (hst : l.stackTraces = false) (D : va_G) (cA : Nat → ClassId) (A : Nat → Prop) (z o ou : Nat) (f : Nat → Nat → Int32) (nC nL nV : Nat) (hi : CRi f nC nL nV) (H9 : Heap) (p1 : Int32) (p2 : Int32) (hou : ¬ A ou) (hAn : ∀ q, H9.size ≤ q → A q) : Met l yL_uses wsL_uses (rmK 42 3 18) (xPX D cA (fun U => lK (fun q => A q ∨ q = ou) z U) [.ref o, .int p1, .int p2, .ref ou] (fun H => H = H9 ∧ CS D cA A z o f nC nL nV H ∧ ∃ o0, xL (cA 1) ou 1 o0 H)) (xW (lJ cA ou (kFo nC p1 p2) (((akE (mS f) (ix p1) none nL (ix p2)).1.1).toInt64) (CS D cA A z o f nC nL nV) (CS D cA A z o f nC nL nV)) (fun q => A q ∨ q = ou)) 3 18 (fun q => A q ∨ q = ou) := by
  refine va_MetW (cc := cL_uses) (maxL := 5) (ret := (some .int)) (hh := [(0, 10, 13, 21)]) (by decide) rfl ?_
  intro p e s m args below meth c s₁ B hml hv
  obtain ⟨rfl, ⟨hK, hX⟩, hI⟩ := hv
  have hx := B.exec
  have hb := B.bytes
  have hr := B.returns
  have hts := atoms_spec (ws := wsL_uses) B.pre
  have hown : s.vm.findClass RL = some m.cls := findClass_of_methodNamed B.named
  have hlocks := B.notSynchronized
  have htab := vx_table (x := yL_uses) B (hts (.codeWith yL_uses cL_uses 5 (some .int) [(0, 10, 13, 21)]) List.mem_cons_self)
  have hl := lv_entry ([.ref o, .int p1, .int p2, .ref ou]) (n := 5) (Nat.le_of_ble_eq_true rfl)
  rw [lg_entry_eq]
  generalize (lg_sl ([.ref o, .int p1, .int p2, .ref ou]) ++ List.replicate (5 - (lg_sl ([.ref o, .int p1, .int p2, .ref ou])).length) Slot.unset).toArray = ls at hl ⊢
  have hl : lv_has ls 5 [(0, .ref o), (1, .int p1), (2, .int p2), (3, .ref ou)] := hl
  obtain ⟨hH9, ⟨lab, nm, rf, hV, hl9, hIQ, hz, ho⟩, o0, hO⟩ := hI
  subst hH9
  subst hz
  subst ho
  have hS : va_S (fun q => A q ∨ q = ou) s.heap s.heap [] := va_S.rf
  refine lv_aload_n hx hb dL_uses_0 rfl (lv_at hl 3 rfl) ?_
  refine lv_iconst (v := 0) hx hb dL_uses_1 (by decide) ?_
  refine lv_aload_n hx hb dL_uses_2 rfl (lv_at hl 0 rfl) ?_
  refine lv_iload_n hx hb dL_uses_3 rfl (lv_at hl 1 rfl) ?_
  refine lv_iload_n hx hb dL_uses_4 rfl (lv_at hl 2 rfl) ?_
  refine xl_call (vx_runV (As := [.int p1, .int p2]) (rest := [.int 0, .ref ou]) ⟨hx, hb, hml, hown, hts⟩ (c_X6_uses l hst D cA lab nm rf f nC nL nV hi A hl9 s.heap p1 p2) (cwV 2 hts gL_uses_X6_uses rfl rfl rfl (by decide +kernel) ⟨Nat.le_of_ble_eq_true rfl, Nat.le_of_ble_eq_true rfl⟩) (xPXV hK pK.blind (fun U hU hW => hX.1.at hS (fun _ h => Or.inl h) hU hW) hV.1 rfl ⟨rfl, hV, hIQ⟩) rfl rfl hl.1 rfl (lv_room (Nat.le_of_ble_eq_true rfl)) dL_uses_5 ⟨Nat.le_of_ble_eq_true rfl, Nat.le_of_ble_eq_true rfl⟩) hS (fun _ _ h => Or.inl h) (fun _ h => Or.inl h) (fun hk0 ce q9 H locs hQ z9 qf hS g1 g2 g3 => ?_) (fun hk0 H locs hP z9 qf hS => ?_)
  · have hO := x_kept hO (qf _ (q_lt hO) hou)
    have hk := (kr_kFo nC p1 p2).resolve_left hk0
    have g4 : s.vm.findClass "java/lang/IndexOutOfBoundsException" = some ce.cls := by (try rw [hk] at g3); exact g3
    refine vx_catch hown [] ⟨0, 10, 13, 21⟩ [] (by rw [htab]; rfl) (fun z hz => by cases hz) (by decide) (by decide) (hts (.classLink RL 21 "java/lang/IndexOutOfBoundsException") (by decide +kernel)) (va_Nw.use rfl (hX.1.2.2.2.2.2.2.2.2.2.2 _ (by decide))) g1 g2 g4 ?_
    refine W.eq (g2 := F0 m 13 ls [.ref q9]) rfl ?_
    refine lv_astore (lv' := [(4, .ref q9), (0, .ref (nm 0 0)), (1, .int p1), (2, .int p2), (3, .ref ou)]) hx hb dL_uses_13 hl (by decide) rfl (fun ls hl => ?_)
    refine lv_iconst (v := 1) hx hb dL_uses_15 (by decide) ?_
    exact xw_iret hx hb hr hlocks hS ⟨by rw [hk], Or.inr ⟨hk0, hQ, _, hO⟩⟩ (Nat.le_of_ble_eq_true rfl) (Nat.le_of_ble_eq_true rfl) dL_uses_16
  · have hO := x_kept hO (qf _ (q_lt hO) hou)
    refine lv_i2l hx hb dL_uses_8 rfl ?_
    have hPl := hP
    refine x_last hx hb hK hO hS (Or.inr rfl) 0 rfl (by omega) (by decide) dL_uses_9 (fun H locs hO z8 q8 hS => ?_)
    have hP := hPl.same (fun q h1 h2 => q8 q (fun e => hou (by rw [← e]; exact h2)))
    refine lv_goto (tgt := 17) hx hb dL_uses_10 (by decide) ?_
    refine lv_iconst (v := 0) hx hb dL_uses_17 (by decide) ?_
    exact xw_iret hx hb hr hlocks hS ⟨by rw [hk0], Or.inl ⟨hk0, hP, hO⟩⟩ (Nat.le_of_ble_eq_true rfl) (Nat.le_of_ble_eq_true rfl) dL_uses_18
set_option maxHeartbeats 4000000 in
set_option maxRecDepth 100000 in
theorem c_L_found (l : Launch) (hst : l.stackTraces = false) (D : va_G) (cA : Nat → ClassId) (A : Nat → Prop) (z o ou : Nat) (f : Nat → Nat → Int32) (nC nL nV : Nat) (hi : CRi f nC nL nV) (H9 : Heap) (p1 : Int32) (hou : ¬ A ou) (hAn : ∀ q, H9.size ≤ q → A q) : Met l yL_found wsL_found (rmK 42 3 18) (xPX D cA (fun U => lK (fun q => A q ∨ q = ou) z U) [.ref o, .int p1, .ref ou] (fun H => H = H9 ∧ CS D cA A z o f nC nL nV H ∧ ∃ o0, xL (cA 1) ou 1 o0 H)) (xW (lJ cA ou (kF1 nC p1) ((fnF (fun b => decide (akT (akE (mS f) (ix p1) none nL b) = 0)) 16).toInt64) (CS D cA A z o f nC nL nV) (CS D cA A z o f nC nL nV)) (fun q => A q ∨ q = ou)) 3 18 (fun q => A q ∨ q = ou) := by
  refine va_MetW (cc := cL_found) (maxL := 4) (ret := (some .int)) (hh := [(0, 9, 12, 21)]) (by decide) rfl ?_
  intro p e s m args below meth c s₁ B hml hv
  obtain ⟨rfl, ⟨hK, hX⟩, hI⟩ := hv
  have hx := B.exec
  have hb := B.bytes
  have hr := B.returns
  have hts := atoms_spec (ws := wsL_found) B.pre
  have hown : s.vm.findClass RL = some m.cls := findClass_of_methodNamed B.named
  have hlocks := B.notSynchronized
  have htab := vx_table (x := yL_found) B (hts (.codeWith yL_found cL_found 4 (some .int) [(0, 9, 12, 21)]) List.mem_cons_self)
  have hl := lv_entry ([.ref o, .int p1, .ref ou]) (n := 4) (Nat.le_of_ble_eq_true rfl)
  rw [lg_entry_eq]
  generalize (lg_sl ([.ref o, .int p1, .ref ou]) ++ List.replicate (4 - (lg_sl ([.ref o, .int p1, .ref ou])).length) Slot.unset).toArray = ls at hl ⊢
  have hl : lv_has ls 4 [(0, .ref o), (1, .int p1), (2, .ref ou)] := hl
  obtain ⟨hH9, ⟨lab, nm, rf, hV, hl9, hIQ, hz, ho⟩, o0, hO⟩ := hI
  subst hH9
  subst hz
  subst ho
  have hS : va_S (fun q => A q ∨ q = ou) s.heap s.heap [] := va_S.rf
  refine lv_aload_n hx hb dL_found_0 rfl (lv_at hl 2 rfl) ?_
  refine lv_iconst (v := 0) hx hb dL_found_1 (by decide) ?_
  refine lv_aload_n hx hb dL_found_2 rfl (lv_at hl 0 rfl) ?_
  refine lv_iload_n hx hb dL_found_3 rfl (lv_at hl 1 rfl) ?_
  refine xl_call (vx_runV (As := [.int p1]) (rest := [.int 0, .ref ou]) ⟨hx, hb, hml, hown, hts⟩ (c_X6_found l hst D cA lab nm rf f nC nL nV hi A hl9 s.heap p1) (cwV 1 hts gL_found_X6_found rfl rfl rfl (by decide +kernel) ⟨Nat.le_of_ble_eq_true rfl, Nat.le_of_ble_eq_true rfl⟩) (xPXV hK pK.blind (fun U hU hW => hX.1.at hS (fun _ h => Or.inl h) hU hW) hV.1 rfl ⟨rfl, hV, hIQ⟩) rfl rfl hl.1 rfl (lv_room (Nat.le_of_ble_eq_true rfl)) dL_found_4 ⟨Nat.le_of_ble_eq_true rfl, Nat.le_of_ble_eq_true rfl⟩) hS (fun _ _ h => Or.inl h) (fun _ h => Or.inl h) (fun hk0 ce q9 H locs hQ z9 qf hS g1 g2 g3 => ?_) (fun hk0 H locs hP z9 qf hS => ?_)
  · have hO := x_kept hO (qf _ (q_lt hO) hou)
    have hk := (kr_kF1 nC p1).resolve_left hk0
    have g4 : s.vm.findClass "java/lang/IndexOutOfBoundsException" = some ce.cls := by (try rw [hk] at g3); exact g3
    refine vx_catch hown [] ⟨0, 9, 12, 21⟩ [] (by rw [htab]; rfl) (fun z hz => by cases hz) (by decide) (by decide) (hts (.classLink RL 21 "java/lang/IndexOutOfBoundsException") (by decide +kernel)) (va_Nw.use rfl (hX.1.2.2.2.2.2.2.2.2.2.2 _ (by decide))) g1 g2 g4 ?_
    refine W.eq (g2 := F0 m 12 ls [.ref q9]) rfl ?_
    refine lv_astore_n (lv' := [(3, .ref q9), (0, .ref (nm 0 0)), (1, .int p1), (2, .ref ou)]) hx hb dL_found_12 rfl hl (by decide) rfl (fun ls hl => ?_)
    refine lv_iconst (v := 1) hx hb dL_found_13 (by decide) ?_
    exact xw_iret hx hb hr hlocks hS ⟨by rw [hk], Or.inr ⟨hk0, hQ, _, hO⟩⟩ (Nat.le_of_ble_eq_true rfl) (Nat.le_of_ble_eq_true rfl) dL_found_14
  · have hO := x_kept hO (qf _ (q_lt hO) hou)
    refine lv_i2l hx hb dL_found_7 rfl ?_
    have hPl := hP
    refine x_last hx hb hK hO hS (Or.inr rfl) 0 rfl (by omega) (by decide) dL_found_8 (fun H locs hO z8 q8 hS => ?_)
    have hP := hPl.same (fun q h1 h2 => q8 q (fun e => hou (by rw [← e]; exact h2)))
    refine lv_goto (tgt := 15) hx hb dL_found_9 (by decide) ?_
    refine lv_iconst (v := 0) hx hb dL_found_15 (by decide) ?_
    exact xw_iret hx hb hr hlocks hS ⟨by rw [hk0], Or.inl ⟨hk0, hP, hO⟩⟩ (Nat.le_of_ble_eq_true rfl) (Nat.le_of_ble_eq_true rfl) dL_found_16
set_option maxHeartbeats 4000000 in
set_option maxRecDepth 100000 in
theorem c_L_differ (l : Launch) (hst : l.stackTraces = false) (D : va_G) (cA : Nat → ClassId) (A : Nat → Prop) (z o ou : Nat) (f : Nat → Nat → Int32) (nC nL nV : Nat) (hi : CRi f nC nL nV) (H9 : Heap) (p1 : Int32) (p2 : Int32) (hou : ¬ A ou) (hAn : ∀ q, H9.size ≤ q → A q) : Met l yL_differ wsL_differ (rmK 43 3 18) (xPX D cA (fun U => lK (fun q => A q ∨ q = ou) z U) [.ref o, .int p1, .int p2, .ref ou] (fun H => H = H9 ∧ CS D cA A z o f nC nL nV H ∧ ∃ o0, xL (cA 1) ou 1 o0 H)) (xW (lJ cA ou (kF2 nC p1 p2) ((fnF (fun b => difE (akE (mS f) (ix p1) none nL b) (akE (mS f) (ix p2) none nL b) b) 16).toInt64) (CS D cA A z o f nC nL nV) (CS D cA A z o f nC nL nV)) (fun q => A q ∨ q = ou)) 3 18 (fun q => A q ∨ q = ou) := by
  refine va_MetW (cc := cL_differ) (maxL := 5) (ret := (some .int)) (hh := [(0, 10, 13, 21)]) (by decide) rfl ?_
  intro p e s m args below meth c s₁ B hml hv
  obtain ⟨rfl, ⟨hK, hX⟩, hI⟩ := hv
  have hx := B.exec
  have hb := B.bytes
  have hr := B.returns
  have hts := atoms_spec (ws := wsL_differ) B.pre
  have hown : s.vm.findClass RL = some m.cls := findClass_of_methodNamed B.named
  have hlocks := B.notSynchronized
  have htab := vx_table (x := yL_differ) B (hts (.codeWith yL_differ cL_differ 5 (some .int) [(0, 10, 13, 21)]) List.mem_cons_self)
  have hl := lv_entry ([.ref o, .int p1, .int p2, .ref ou]) (n := 5) (Nat.le_of_ble_eq_true rfl)
  rw [lg_entry_eq]
  generalize (lg_sl ([.ref o, .int p1, .int p2, .ref ou]) ++ List.replicate (5 - (lg_sl ([.ref o, .int p1, .int p2, .ref ou])).length) Slot.unset).toArray = ls at hl ⊢
  have hl : lv_has ls 5 [(0, .ref o), (1, .int p1), (2, .int p2), (3, .ref ou)] := hl
  obtain ⟨hH9, ⟨lab, nm, rf, hV, hl9, hIQ, hz, ho⟩, o0, hO⟩ := hI
  subst hH9
  subst hz
  subst ho
  have hS : va_S (fun q => A q ∨ q = ou) s.heap s.heap [] := va_S.rf
  refine lv_aload_n hx hb dL_differ_0 rfl (lv_at hl 3 rfl) ?_
  refine lv_iconst (v := 0) hx hb dL_differ_1 (by decide) ?_
  refine lv_aload_n hx hb dL_differ_2 rfl (lv_at hl 0 rfl) ?_
  refine lv_iload_n hx hb dL_differ_3 rfl (lv_at hl 1 rfl) ?_
  refine lv_iload_n hx hb dL_differ_4 rfl (lv_at hl 2 rfl) ?_
  refine xl_call (vx_runV (As := [.int p1, .int p2]) (rest := [.int 0, .ref ou]) ⟨hx, hb, hml, hown, hts⟩ (c_X6_differ l hst D cA lab nm rf f nC nL nV hi A hl9 s.heap p1 p2) (cwV 2 hts gL_differ_X6_differ rfl rfl rfl (by decide +kernel) ⟨Nat.le_of_ble_eq_true rfl, Nat.le_of_ble_eq_true rfl⟩) (xPXV hK pK.blind (fun U hU hW => hX.1.at hS (fun _ h => Or.inl h) hU hW) hV.1 rfl ⟨rfl, hV, hIQ⟩) rfl rfl hl.1 rfl (lv_room (Nat.le_of_ble_eq_true rfl)) dL_differ_5 ⟨Nat.le_of_ble_eq_true rfl, Nat.le_of_ble_eq_true rfl⟩) hS (fun _ _ h => Or.inl h) (fun _ h => Or.inl h) (fun hk0 ce q9 H locs hQ z9 qf hS g1 g2 g3 => ?_) (fun hk0 H locs hP z9 qf hS => ?_)
  · have hO := x_kept hO (qf _ (q_lt hO) hou)
    have hk := (kr_kF2 nC p1 p2).resolve_left hk0
    have g4 : s.vm.findClass "java/lang/IndexOutOfBoundsException" = some ce.cls := by (try rw [hk] at g3); exact g3
    refine vx_catch hown [] ⟨0, 10, 13, 21⟩ [] (by rw [htab]; rfl) (fun z hz => by cases hz) (by decide) (by decide) (hts (.classLink RL 21 "java/lang/IndexOutOfBoundsException") (by decide +kernel)) (va_Nw.use rfl (hX.1.2.2.2.2.2.2.2.2.2.2 _ (by decide))) g1 g2 g4 ?_
    refine W.eq (g2 := F0 m 13 ls [.ref q9]) rfl ?_
    refine lv_astore (lv' := [(4, .ref q9), (0, .ref (nm 0 0)), (1, .int p1), (2, .int p2), (3, .ref ou)]) hx hb dL_differ_13 hl (by decide) rfl (fun ls hl => ?_)
    refine lv_iconst (v := 1) hx hb dL_differ_15 (by decide) ?_
    exact xw_iret hx hb hr hlocks hS ⟨by rw [hk], Or.inr ⟨hk0, hQ, _, hO⟩⟩ (Nat.le_of_ble_eq_true rfl) (Nat.le_of_ble_eq_true rfl) dL_differ_16
  · have hO := x_kept hO (qf _ (q_lt hO) hou)
    refine lv_i2l hx hb dL_differ_8 rfl ?_
    have hPl := hP
    refine x_last hx hb hK hO hS (Or.inr rfl) 0 rfl (by omega) (by decide) dL_differ_9 (fun H locs hO z8 q8 hS => ?_)
    have hP := hPl.same (fun q h1 h2 => q8 q (fun e => hou (by rw [← e]; exact h2)))
    refine lv_goto (tgt := 17) hx hb dL_differ_10 (by decide) ?_
    refine lv_iconst (v := 0) hx hb dL_differ_17 (by decide) ?_
    exact xw_iret hx hb hr hlocks hS ⟨by rw [hk0], Or.inl ⟨hk0, hP, hO⟩⟩ (Nat.le_of_ble_eq_true rfl) (Nat.le_of_ble_eq_true rfl) dL_differ_18
set_option maxHeartbeats 4000000 in
set_option maxRecDepth 100000 in
theorem c_L_statusAt (l : Launch) (hst : l.stackTraces = false) (D : va_G) (cA : Nat → ClassId) (A : Nat → Prop) (z o ou : Nat) (f : Nat → Nat → Int32) (nC nL nV : Nat) (hi : CRi f nC nL nV) (H9 : Heap) (p1 : Int32) (p2 : Int32) (p3 : Int32) (hou : ¬ A ou) (hAn : ∀ q, H9.size ≤ q → A q) : Met l yL_statusAt wsL_statusAt (rmK 42 3 18) (xPX D cA (fun U => lK (fun q => A q ∨ q = ou) z U) [.ref o, .int p1, .int p2, .int p3, .ref ou] (fun H => H = H9 ∧ CS D cA A z o f nC nL nV H ∧ ∃ o0, xL (cA 1) ou 1 o0 H)) (xW (lJ cA ou (kAt nC nV p1 p2 p3) ((akT (akE (mS f) (ix p2) (some (ix p1)) nL (ix p3))).toInt64) (CS D cA A z o f nC nL nV) (CS D cA A z o f nC nL nV)) (fun q => A q ∨ q = ou)) 3 18 (fun q => A q ∨ q = ou) := by
  refine va_MetW (cc := cL_statusAt) (maxL := 6) (ret := (some .int)) (hh := [(0, 12, 15, 21)]) (by decide) rfl ?_
  intro p e s m args below meth c s₁ B hml hv
  obtain ⟨rfl, ⟨hK, hX⟩, hI⟩ := hv
  have hx := B.exec
  have hb := B.bytes
  have hr := B.returns
  have hts := atoms_spec (ws := wsL_statusAt) B.pre
  have hown : s.vm.findClass RL = some m.cls := findClass_of_methodNamed B.named
  have hlocks := B.notSynchronized
  have htab := vx_table (x := yL_statusAt) B (hts (.codeWith yL_statusAt cL_statusAt 6 (some .int) [(0, 12, 15, 21)]) List.mem_cons_self)
  have hl := lv_entry ([.ref o, .int p1, .int p2, .int p3, .ref ou]) (n := 6) (Nat.le_of_ble_eq_true rfl)
  rw [lg_entry_eq]
  generalize (lg_sl ([.ref o, .int p1, .int p2, .int p3, .ref ou]) ++ List.replicate (6 - (lg_sl ([.ref o, .int p1, .int p2, .int p3, .ref ou])).length) Slot.unset).toArray = ls at hl ⊢
  have hl : lv_has ls 6 [(0, .ref o), (1, .int p1), (2, .int p2), (3, .int p3), (4, .ref ou)] := hl
  obtain ⟨hH9, ⟨lab, nm, rf, hV, hl9, hIQ, hz, ho⟩, o0, hO⟩ := hI
  subst hH9
  subst hz
  subst ho
  have hS : va_S (fun q => A q ∨ q = ou) s.heap s.heap [] := va_S.rf
  refine lv_aload hx hb dL_statusAt_0 (lv_at hl 4 rfl) ?_
  refine lv_iconst (v := 0) hx hb dL_statusAt_2 (by decide) ?_
  refine lv_aload_n hx hb dL_statusAt_3 rfl (lv_at hl 0 rfl) ?_
  refine lv_iload_n hx hb dL_statusAt_4 rfl (lv_at hl 1 rfl) ?_
  refine lv_iload_n hx hb dL_statusAt_5 rfl (lv_at hl 2 rfl) ?_
  refine lv_iload_n hx hb dL_statusAt_6 rfl (lv_at hl 3 rfl) ?_
  refine xl_call (vx_runV (As := [.int p1, .int p2, .int p3]) (rest := [.int 0, .ref ou]) ⟨hx, hb, hml, hown, hts⟩ (c_X6_statusAt l hst D cA lab nm rf f nC nL nV hi A hl9 s.heap p1 p2 p3) (cwV 3 hts gL_statusAt_X6_statusAt rfl rfl rfl (by decide +kernel) ⟨Nat.le_of_ble_eq_true rfl, Nat.le_of_ble_eq_true rfl⟩) (xPXV hK pK.blind (fun U hU hW => hX.1.at hS (fun _ h => Or.inl h) hU hW) hV.1 rfl ⟨rfl, hV, hIQ⟩) rfl rfl hl.1 rfl (lv_room (Nat.le_of_ble_eq_true rfl)) dL_statusAt_7 ⟨Nat.le_of_ble_eq_true rfl, Nat.le_of_ble_eq_true rfl⟩) hS (fun _ _ h => Or.inl h) (fun _ h => Or.inl h) (fun hk0 ce q9 H locs hQ z9 qf hS g1 g2 g3 => ?_) (fun hk0 H locs hP z9 qf hS => ?_)
  · have hO := x_kept hO (qf _ (q_lt hO) hou)
    have hk := (kr_kAt nC nV p1 p2 p3).resolve_left hk0
    have g4 : s.vm.findClass "java/lang/IndexOutOfBoundsException" = some ce.cls := by (try rw [hk] at g3); exact g3
    refine vx_catch hown [] ⟨0, 12, 15, 21⟩ [] (by rw [htab]; rfl) (fun z hz => by cases hz) (by decide) (by decide) (hts (.classLink RL 21 "java/lang/IndexOutOfBoundsException") (by decide +kernel)) (va_Nw.use rfl (hX.1.2.2.2.2.2.2.2.2.2.2 _ (by decide))) g1 g2 g4 ?_
    refine W.eq (g2 := F0 m 15 ls [.ref q9]) rfl ?_
    refine lv_astore (lv' := [(5, .ref q9), (0, .ref (nm 0 0)), (1, .int p1), (2, .int p2), (3, .int p3), (4, .ref ou)]) hx hb dL_statusAt_15 hl (by decide) rfl (fun ls hl => ?_)
    refine lv_iconst (v := 1) hx hb dL_statusAt_17 (by decide) ?_
    exact xw_iret hx hb hr hlocks hS ⟨by rw [hk], Or.inr ⟨hk0, hQ, _, hO⟩⟩ (Nat.le_of_ble_eq_true rfl) (Nat.le_of_ble_eq_true rfl) dL_statusAt_18
  · have hO := x_kept hO (qf _ (q_lt hO) hou)
    refine lv_i2l hx hb dL_statusAt_10 rfl ?_
    have hPl := hP
    refine x_last hx hb hK hO hS (Or.inr rfl) 0 rfl (by omega) (by decide) dL_statusAt_11 (fun H locs hO z8 q8 hS => ?_)
    have hP := hPl.same (fun q h1 h2 => q8 q (fun e => hou (by rw [← e]; exact h2)))
    refine lv_goto (tgt := 19) hx hb dL_statusAt_12 (by decide) ?_
    refine lv_iconst (v := 0) hx hb dL_statusAt_19 (by decide) ?_
    exact xw_iret hx hb hr hlocks hS ⟨by rw [hk0], Or.inl ⟨hk0, hP, hO⟩⟩ (Nat.le_of_ble_eq_true rfl) (Nat.le_of_ble_eq_true rfl) dL_statusAt_20
set_option maxHeartbeats 4000000 in
set_option maxRecDepth 100000 in
theorem c_L_valueAt (l : Launch) (hst : l.stackTraces = false) (D : va_G) (cA : Nat → ClassId) (A : Nat → Prop) (z o ou : Nat) (f : Nat → Nat → Int32) (nC nL nV : Nat) (hi : CRi f nC nL nV) (H9 : Heap) (p1 : Int32) (p2 : Int32) (p3 : Int32) (hou : ¬ A ou) (hAn : ∀ q, H9.size ≤ q → A q) : Met l yL_valueAt wsL_valueAt (rmK 42 3 18) (xPX D cA (fun U => lK (fun q => A q ∨ q = ou) z U) [.ref o, .int p1, .int p2, .int p3, .ref ou] (fun H => H = H9 ∧ CS D cA A z o f nC nL nV H ∧ ∃ o0, xL (cA 1) ou 1 o0 H)) (xW (lJ cA ou (kVt (mS f) nL nC nV p1 p2 p3) (akV (akE (mS f) (ix p2) (some (ix p1)) nL (ix p3)) (ix p3)) (CS D cA A z o f nC nL nV) (CS D cA A z o f nC nL nV)) (fun q => A q ∨ q = ou)) 3 18 (fun q => A q ∨ q = ou) := by
  refine va_MetW (cc := cL_valueAt) (maxL := 6) (ret := (some .int)) (hh := [(0, 11, 14, 21), (0, 11, 18, 15)]) (by decide) rfl ?_
  intro p e s m args below meth c s₁ B hml hv
  obtain ⟨rfl, ⟨hK, hX⟩, hI⟩ := hv
  have hx := B.exec
  have hb := B.bytes
  have hr := B.returns
  have hts := atoms_spec (ws := wsL_valueAt) B.pre
  have hown : s.vm.findClass RL = some m.cls := findClass_of_methodNamed B.named
  have hlocks := B.notSynchronized
  have htab := vx_table (x := yL_valueAt) B (hts (.codeWith yL_valueAt cL_valueAt 6 (some .int) [(0, 11, 14, 21), (0, 11, 18, 15)]) List.mem_cons_self)
  have hl := lv_entry ([.ref o, .int p1, .int p2, .int p3, .ref ou]) (n := 6) (Nat.le_of_ble_eq_true rfl)
  rw [lg_entry_eq]
  generalize (lg_sl ([.ref o, .int p1, .int p2, .int p3, .ref ou]) ++ List.replicate (6 - (lg_sl ([.ref o, .int p1, .int p2, .int p3, .ref ou])).length) Slot.unset).toArray = ls at hl ⊢
  have hl : lv_has ls 6 [(0, .ref o), (1, .int p1), (2, .int p2), (3, .int p3), (4, .ref ou)] := hl
  obtain ⟨hH9, ⟨lab, nm, rf, hV, hl9, hIQ, hz, ho⟩, o0, hO⟩ := hI
  subst hH9
  subst hz
  subst ho
  have hS : va_S (fun q => A q ∨ q = ou) s.heap s.heap [] := va_S.rf
  refine lv_aload hx hb dL_valueAt_0 (lv_at hl 4 rfl) ?_
  refine lv_iconst (v := 0) hx hb dL_valueAt_2 (by decide) ?_
  refine lv_aload_n hx hb dL_valueAt_3 rfl (lv_at hl 0 rfl) ?_
  refine lv_iload_n hx hb dL_valueAt_4 rfl (lv_at hl 1 rfl) ?_
  refine lv_iload_n hx hb dL_valueAt_5 rfl (lv_at hl 2 rfl) ?_
  refine lv_iload_n hx hb dL_valueAt_6 rfl (lv_at hl 3 rfl) ?_
  refine xl_call (vx_runV (As := [.int p1, .int p2, .int p3]) (rest := [.int 0, .ref ou]) ⟨hx, hb, hml, hown, hts⟩ (c_X6_valueAt l hst D cA lab nm rf f nC nL nV hi A hl9 s.heap p1 p2 p3) (cwV 3 hts gL_valueAt_X6_valueAt rfl rfl rfl (by decide +kernel) ⟨Nat.le_of_ble_eq_true rfl, Nat.le_of_ble_eq_true rfl⟩) (xPXV hK pK.blind (fun U hU hW => hX.1.at hS (fun _ h => Or.inl h) hU hW) hV.1 rfl ⟨rfl, hV, hIQ⟩) rfl rfl hl.1 rfl (lv_room (Nat.le_of_ble_eq_true rfl)) dL_valueAt_7 ⟨Nat.le_of_ble_eq_true rfl, Nat.le_of_ble_eq_true rfl⟩) hS (fun _ _ h => Or.inl h) (fun _ h => Or.inl h) (fun hk0 ce q9 H locs hQ z9 qf hS g1 g2 g3 => ?_) (fun hk0 H locs hP z9 qf hS => ?_)
  · have hO := x_kept hO (qf _ (q_lt hO) hou)
    rcases (kr_kVt (mS f) nL nC nV p1 p2 p3).resolve_left hk0 with hk | hk
    · have g4 : s.vm.findClass "java/lang/IndexOutOfBoundsException" = some ce.cls := by (try rw [hk] at g3); exact g3
      refine vx_catch hown [] ⟨0, 11, 14, 21⟩ [⟨0, 11, 18, 15⟩] (by rw [htab]; rfl) (fun z hz => by cases hz) (by decide) (by decide) (hts (.classLink RL 21 "java/lang/IndexOutOfBoundsException") (by decide +kernel)) (va_Nw.use rfl (hX.1.2.2.2.2.2.2.2.2.2.2 _ (by decide))) g1 g2 g4 ?_
      refine W.eq (g2 := F0 m 14 ls [.ref q9]) rfl ?_
      refine lv_astore (lv' := [(5, .ref q9), (0, .ref (nm 0 0)), (1, .int p1), (2, .int p2), (3, .int p3), (4, .ref ou)]) hx hb dL_valueAt_14 hl (by decide) rfl (fun ls hl => ?_)
      refine lv_iconst (v := 1) hx hb dL_valueAt_16 (by decide) ?_
      exact xw_iret hx hb hr hlocks hS ⟨by rw [hk], Or.inr ⟨hk0, hQ, _, hO⟩⟩ (Nat.le_of_ble_eq_true rfl) (Nat.le_of_ble_eq_true rfl) dL_valueAt_17
    · have g4 : s.vm.findClass "java/lang/IllegalStateException" = some ce.cls := by (try rw [hk] at g3); exact g3
      refine vx_catch hown [⟨0, 11, 14, 21⟩] ⟨0, 11, 18, 15⟩ [] (by rw [htab]; rfl) (fun z hz => by
          simp only [List.mem_cons, List.not_mem_nil, or_false] at hz
          subst hz
          exact Or.inr ⟨by decide, "java/lang/IndexOutOfBoundsException", hts (.classLink RL 21 "java/lang/IndexOutOfBoundsException") (by decide +kernel), hX.2 _ (by decide) _ (by decide) (by decide)⟩) (by decide) (by decide) (hts (.classLink RL 15 "java/lang/IllegalStateException") (by decide +kernel)) (va_Nw.use rfl (hX.1.2.2.2.2.2.2.2.2.2.2 _ (by decide))) g1 g2 g4 ?_
      refine W.eq (g2 := F0 m 18 ls [.ref q9]) rfl ?_
      refine lv_astore (lv' := [(5, .ref q9), (0, .ref (nm 0 0)), (1, .int p1), (2, .int p2), (3, .int p3), (4, .ref ou)]) hx hb dL_valueAt_18 hl (by decide) rfl (fun ls hl => ?_)
      refine lv_iconst (v := 2) hx hb dL_valueAt_20 (by decide) ?_
      exact xw_iret hx hb hr hlocks hS ⟨by rw [hk], Or.inr ⟨hk0, hQ, _, hO⟩⟩ (Nat.le_of_ble_eq_true rfl) (Nat.le_of_ble_eq_true rfl) dL_valueAt_21
  · have hO := x_kept hO (qf _ (q_lt hO) hou)
    have hPl := hP
    refine x_last hx hb hK hO hS (Or.inr rfl) 0 rfl (by omega) (by decide) dL_valueAt_10 (fun H locs hO z8 q8 hS => ?_)
    have hP := hPl.same (fun q h1 h2 => q8 q (fun e => hou (by rw [← e]; exact h2)))
    refine lv_goto (tgt := 22) hx hb dL_valueAt_11 (by decide) ?_
    refine lv_iconst (v := 0) hx hb dL_valueAt_22 (by decide) ?_
    exact xw_iret hx hb hr hlocks hS ⟨by rw [hk0], Or.inl ⟨hk0, hP, hO⟩⟩ (Nat.le_of_ble_eq_true rfl) (Nat.le_of_ble_eq_true rfl) dL_valueAt_23
