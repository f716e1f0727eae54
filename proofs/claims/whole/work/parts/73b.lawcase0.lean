set_option maxHeartbeats 4000000 in
set_option maxRecDepth 100000 in
theorem lw_c0 {p : Program} {l : Launch} {e : Env} {s : State} {m : MethodId} {below : List Frame} {meth : Method} {c : Code} {b L : Nat} {xs : Nat → Int32} {Q : State → Prop} (hx : p.tables.exec = Jvm.exec) (hb : c.code = cL_law) (hml : c.maxLocals = 8) (hown : s.vm.findClass RL = some m.cls) (hts : ∀ w ∈ wsL_law, w.before #[Value.ref b] s = true) {D : va_G} {cA : Nat → ClassId} (hK : xK D cA s) {z o M h1 ou : Nat} {ad : Nat → Nat} (hX : lK (fun q => s.heap.size ≤ q) z s) (hXs : va_X b L xs s s.heap) (hbl : b < s.heap.size) (hL : L ≤ 3584) (hst : l.stackTraces = false) (h01 : s.heap.size ≤ h1) (h1u : h1 ≤ ou) {i : Nat} (hi9 : 7 * i + 7 ≤ L) {H : Heap} {locs : List Loc} {ls : Array Slot} (hI : LI D cA s.heap.size h1 ou z o M ad i H) (hS : va_S (fun q => s.heap.size ≤ q) s.heap H locs) (hl : lv_has ls 8 [(0, .ref b), (1, .ref o), (2, .ref M), (3, .ref ou), (4, .int (nI (7 * i)))]) (ih : ∀ (H2 : Heap) (locs2 : List Loc) (ls2 : Array Slot), LI D cA s.heap.size h1 ou z o M ad (i + 1) H2 → va_S (fun q => s.heap.size ≤ q) s.heap H2 locs2 → lv_has ls2 8 [(0, .ref b), (1, .ref o), (2, .ref M), (3, .ref ou), (4, .int (nI (7 * (i + 1))))] → W p l e room_1 s m #[Value.ref b] below meth c H2 locs2 (40 + 10 * (i + 1)) (70000 + 1200 * (i + 1)) Q (F0 m 23 ls2 [])) : W p l e room_1 s m #[Value.ref b] below meth c H locs (40 + 10 * i) (70000 + 1200 * i) Q (F0 m 188 ls []) := by
  obtain ⟨hou9, ⟨o1, hO⟩, σ, nC, nL, nV, hM, hn, hC, hi, hv⟩ := hI
  have hi5 : i ≤ 511 := by omega
  refine lv_aload_n hx hb dL_law_188 rfl (lv_at hl 1 rfl) ?_
  refine lv_aload_n hx hb dL_law_189 rfl (lv_at hl 0 rfl) ?_
  refine lv_iload hx hb dL_law_190 (lv_at hl 4 rfl) ?_
  refine lv_iconst (v := 1) hx hb dL_law_192 (by decide) ?_
  refine xe_iadd hx hb (nI_add (7 * i) 1) dL_law_193 ?_
  refine va_sld hx hb hXs hbl (Nat.not_le.mpr hbl) hS (vp_in_nI (show 7 * i + 1 < L by omega) (by omega)) dL_law_194 ?_
  rw [nI_clamp (show 7 * i + 1 < 2 ^ 31 by omega)]
  refine lv_aload_n hx hb dL_law_195 rfl (lv_at hl 0 rfl) ?_
  refine lv_iload hx hb dL_law_196 (lv_at hl 4 rfl) ?_
  refine lv_iconst (v := 2) hx hb dL_law_198 (by decide) ?_
  refine xe_iadd hx hb (nI_add (7 * i) 2) dL_law_199 ?_
  refine va_sld hx hb hXs hbl (Nat.not_le.mpr hbl) hS (vp_in_nI (show 7 * i + 2 < L by omega) (by omega)) dL_law_200 ?_
  rw [nI_clamp (show 7 * i + 2 < 2 ^ 31 by omega)]
  refine lv_aload_n hx hb dL_law_201 rfl (lv_at hl 3 rfl) ?_
  have hou8 : ¬ aC s.heap.size h1 ou ou := fun h => h.2.2 rfl
  have hAn : ∀ q, H.size ≤ q → aC s.heap.size h1 ou q := fun q h => ⟨by have := hS.1; omega, by omega, by omega⟩
  have hBA : ∀ q, (aC s.heap.size h1 ou q ∨ q = ou) → s.heap.size ≤ q := fun q h => h.elim (fun h => h.1) (fun e => by omega)
  refine xl_lcall (vx_runSW (As := [.ref o, .int (xs (7 * i + 1)), .int (xs (7 * i + 2)), .ref ou]) (rest := []) ⟨hx, hb, hml, hown, hts⟩ (c_L_client l hst D cA (aC s.heap.size h1 ou) z o ou σ.2.1 nC nL nV hi H (xs (7 * i + 1)) (xs (7 * i + 2)) hou8 hAn) (vx_cwSW 4 hts gL_law_L_client rfl rfl rfl (by decide +kernel) ⟨(Nat.le_of_ble_eq_true rfl), (Nat.le_of_ble_eq_true rfl)⟩) (xPXS hK lK.blind (fun U hU hW => hX.at hS hBA hU hW) ⟨rfl, hC, _, hO⟩) rfl rfl hl.1 rfl (lv_room (Nat.le_of_ble_eq_true rfl)) dL_law_202 ⟨by show 40 + 10 * i + 6 ≤ 601024; omega, by show 70000 + 1200 * i + 1020 ≤ 7293034; omega⟩) hS (fun q _ h => hBA q h) (fun q h => hBA q h) (fun H locs hJ z9 q9 hS => ?_)
  have hM := hM.keptA (fun q g1 g2 => q9 q g1 (fun h => h.elim (fun h => h.2.1 g2) (fun e => by have := g2.2; omega)))
  have hou9 : ou < H.size := Nat.lt_of_lt_of_le hou9 z9
  refine lv_istore (lv' := [(5, .int (kCl nC (xs (7 * i + 1)) (xs (7 * i + 2)))), (0, .ref b), (1, .ref o), (2, .ref M), (3, .ref ou), (4, .int (nI (7 * i)))]) hx hb dL_law_205 hl (by decide) rfl (fun ls hl => ?_)
  refine lv_aload_n hx hb dL_law_207 rfl (lv_at hl 3 rfl) ?_
  refine lv_aload_n hx hb dL_law_208 rfl (lv_at hl 1 rfl) ?_
  refine lv_iload hx hb dL_law_209 (lv_at hl 5 rfl) ?_
  refine lv_iconst (v := 1) hx hb dL_law_211 (by decide) ?_
  refine xe_iadd hx hb (nI_add (7 * i) 1) dL_law_212 ?_
  refine va_sld hx hb hXs hbl (Nat.not_le.mpr hbl) hS (vp_in_nI (show 7 * i + 1 < L by omega) (by omega)) dL_law_213 ?_
  rw [nI_clamp (show 7 * i + 1 < 2 ^ 31 by omega)]
  refine lv_aload_n hx hb dL_law_214 rfl (lv_at hl 1 rfl) ?_
  refine lv_iload hx hb dL_law_215 (lv_at hl 5 rfl) ?_
  refine lv_iconst (v := 2) hx hb dL_law_217 (by decide) ?_
  refine xe_iadd hx hb (nI_add (7 * i) 2) dL_law_218 ?_
  refine va_sld hx hb hXs hbl (Nat.not_le.mpr hbl) hS (vp_in_nI (show 7 * i + 2 < L by omega) (by omega)) dL_law_219 ?_
  rw [nI_clamp (show 7 * i + 2 < 2 ^ 31 by omega)]
  have hMA : ∀ q, aM h1 ou q → s.heap.size ≤ q := fun q h => Nat.le_trans h01 h.1
  refine xl_mint (va_runV (As := [.int (xs (7 * i + 1)), .int (xs (7 * i + 2))]) (rest := []) ⟨hx, hb, hml, hown, hts⟩ (c_X7_client l D cA (aM h1 ou) M ad σ (xs (7 * i + 1)) (xs (7 * i + 2)) nC hn.1 hi.1) (cwV 2 hts gL_law_X7_client rfl rfl rfl (by decide +kernel) ⟨(Nat.le_of_ble_eq_true rfl), (Nat.le_of_ble_eq_true rfl)⟩) (xPV hK hM.1 rfl hM) rfl rfl hl.1 rfl (lv_room (Nat.le_of_ble_eq_true rfl)) dL_law_220 ⟨by show 40 + 10 * i + 6 + 0 ≤ 601024; omega, by show 70000 + 1200 * i + 1020 + 0 ≤ 7293034; omega⟩) hS (fun q _ h => hMA q h) (fun q h => hMA q h) (fun y σ2 H locs hM2 ht hne heq z8 q8 hS => ?_)
  have hou9 : ou < H.size := Nat.lt_of_lt_of_le hou9 z8
  refine lv_istore (lv' := [(6, .int y), (5, .int (kCl nC (xs (7 * i + 1)) (xs (7 * i + 2)))), (0, .ref b), (1, .ref o), (2, .ref M), (3, .ref ou), (4, .int (nI (7 * i)))]) hx hb dL_law_223 hl (by decide) rfl (fun ls hl => ?_)
  refine lv_aload_n hx hb dL_law_225 rfl (lv_at hl 4 rfl) ?_
  refine xr_call (va_runV (As := []) (rest := []) ⟨hx, hb, hml, hown, hts⟩ (c_X7_thrown l D cA (aM h1 ou) M ad σ2) (cwV 0 hts gL_law_X7_thrown rfl rfl rfl (by decide +kernel) ⟨(Nat.le_of_ble_eq_true rfl), (Nat.le_of_ble_eq_true rfl)⟩) (xPV hK hM2.1 rfl hM2) rfl rfl hl.1 rfl (lv_room (Nat.le_of_ble_eq_true rfl)) dL_law_226 ⟨by show 40 + 10 * i + 6 + 0 + 0 ≤ 601024; omega, by show 70000 + 1200 * i + 1020 + 0 + 0 ≤ 7293034; omega⟩) ?_
  refine xe_top (y := (kCl nC (xs (7 * i + 1)) (xs (7 * i + 2)))) (show σ2.1 25 = (kCl nC (xs (7 * i + 1)) (xs (7 * i + 2))) from ht) ?_
  refine lv_iload hx hb dL_law_229 (lv_at hl 1 rfl) ?_
  refine lv_icmp_eq (tgt := 236) hx hb dL_law_231 (by decide) (fun _ => ?_) (fun q => absurd rfl q)
  rcases hJ with ⟨hk, hP, hO⟩ | ⟨hk, hP, o2, hO⟩
  · have hC2 := hP.same (fun q g1 g2 => q8 q g1 (fun h => g2.2.1 h))
    have hO := x_kept hO (q8 _ (q_lt hO) (fun h => absurd h.2 (Nat.lt_irrefl _)))
    obtain ⟨hy, hp⟩ := heq hk
    refine lv_iload hx hb dL_law_236 (lv_at hl 1 rfl) ?_
    refine lv_if_ne (tgt := 253) hx hb dL_law_238 (by decide) (fun q => absurd hk q) (fun _ => ?_)
    refine lv_aload_n hx hb dL_law_241 rfl (lv_at hl 5 rfl) ?_
    refine lv_iconst (v := 0) hx hb dL_law_242 (by decide) ?_
    refine x_lald hx hb hK hO 0 rfl (by omega) (by decide) dL_law_243 ?_
    refine lv_iload hx hb dL_law_244 (lv_at hl 0 rfl) ?_
    refine lv_i2l hx hb dL_law_246 rfl ?_
    refine xe_lcmp hx hb dL_law_247 (fun v9 hv9 => ?_)
    refine lv_if_eq (tgt := 253) hx hb dL_law_248 (by decide) (fun _ => ?_) (fun q => absurd (hv9.mpr (show ((nI nC).toInt64) = (y).toInt64 from by subst hy; rfl)) q)
    refine lv_goto (tgt := 2489) hx hb dL_law_253 (by decide) ?_
    refine lv_iinc (v := (nI (7 * (i + 1)))) (lv' := [(4, .int (nI (7 * (i + 1)))), (6, .int y), (5, .int (kCl nC (xs (7 * i + 1)) (xs (7 * i + 2)))), (0, .ref b), (1, .ref o), (2, .ref M), (3, .ref ou)]) hx hb dL_law_2489 hl (k := 6) rfl (ni_inc7 i) (by decide) rfl (fun ls hl => ?_)
    refine lv_goto (tgt := 23) hx hb dL_law_2492 (by decide) ?_
    exact W.widen (k := 40 + 10 * (i + 1)) (n := 70000 + 1200 * (i + 1)) (by omega) (by omega) (ih _ _ _ (li_end hou9 ⟨_, hO⟩ hM2 hp (mN_cl hn (xs (7 * i + 1)) (xs (7 * i + 2))) hC2 (hi.cl hk) (by omega)) hS (lv_sub hl [3, 4, 5, 6, 0] rfl))
  · have hC2 := hP.same (fun q g1 g2 => q8 q g1 (fun h => g2.2.1 h))
    have hO := x_kept hO (q8 _ (q_lt hO) (fun h => absurd h.2 (Nat.lt_irrefl _)))
    have hp := hne hk
    refine lv_iload hx hb dL_law_236 (lv_at hl 1 rfl) ?_
    refine lv_if_ne (tgt := 253) hx hb dL_law_238 (by decide) (fun _ => ?_) (fun q => absurd q hk)
    refine lv_goto (tgt := 2489) hx hb dL_law_253 (by decide) ?_
    refine lv_iinc (v := (nI (7 * (i + 1)))) (lv' := [(4, .int (nI (7 * (i + 1)))), (6, .int y), (5, .int (kCl nC (xs (7 * i + 1)) (xs (7 * i + 2)))), (0, .ref b), (1, .ref o), (2, .ref M), (3, .ref ou)]) hx hb dL_law_2489 hl (k := 6) rfl (ni_inc7 i) (by decide) rfl (fun ls hl => ?_)
    refine lv_goto (tgt := 23) hx hb dL_law_2492 (by decide) ?_
    exact W.widen (k := 40 + 10 * (i + 1)) (n := 70000 + 1200 * (i + 1)) (by omega) (by omega) (ih _ _ _ (li_end hou9 ⟨_, hO⟩ hM2 hp hn hC2 hi (by omega)) hS (lv_sub hl [3, 4, 5, 6, 0] rfl))
set_option maxHeartbeats 4000000 in
set_option maxRecDepth 100000 in
theorem lw_c1 {p : Program} {l : Launch} {e : Env} {s : State} {m : MethodId} {below : List Frame} {meth : Method} {c : Code} {b L : Nat} {xs : Nat → Int32} {Q : State → Prop} (hx : p.tables.exec = Jvm.exec) (hb : c.code = cL_law) (hml : c.maxLocals = 8) (hown : s.vm.findClass RL = some m.cls) (hts : ∀ w ∈ wsL_law, w.before #[Value.ref b] s = true) {D : va_G} {cA : Nat → ClassId} (hK : xK D cA s) {z o M h1 ou : Nat} {ad : Nat → Nat} (hX : lK (fun q => s.heap.size ≤ q) z s) (hXs : va_X b L xs s s.heap) (hbl : b < s.heap.size) (hL : L ≤ 3584) (hst : l.stackTraces = false) (h01 : s.heap.size ≤ h1) (h1u : h1 ≤ ou) {i : Nat} (hi9 : 7 * i + 7 ≤ L) {H : Heap} {locs : List Loc} {ls : Array Slot} (hI : LI D cA s.heap.size h1 ou z o M ad i H) (hS : va_S (fun q => s.heap.size ≤ q) s.heap H locs) (hl : lv_has ls 8 [(0, .ref b), (1, .ref o), (2, .ref M), (3, .ref ou), (4, .int (nI (7 * i)))]) (ih : ∀ (H2 : Heap) (locs2 : List Loc) (ls2 : Array Slot), LI D cA s.heap.size h1 ou z o M ad (i + 1) H2 → va_S (fun q => s.heap.size ≤ q) s.heap H2 locs2 → lv_has ls2 8 [(0, .ref b), (1, .ref o), (2, .ref M), (3, .ref ou), (4, .int (nI (7 * (i + 1))))] → W p l e room_1 s m #[Value.ref b] below meth c H2 locs2 (40 + 10 * (i + 1)) (70000 + 1200 * (i + 1)) Q (F0 m 23 ls2 [])) : W p l e room_1 s m #[Value.ref b] below meth c H locs (40 + 10 * i) (70000 + 1200 * i) Q (F0 m 256 ls []) := by
  obtain ⟨hou9, ⟨o1, hO⟩, σ, nC, nL, nV, hM, hn, hC, hi, hv⟩ := hI
  have hi5 : i ≤ 511 := by omega
  refine lv_aload_n hx hb dL_law_256 rfl (lv_at hl 1 rfl) ?_
  refine lv_aload_n hx hb dL_law_257 rfl (lv_at hl 0 rfl) ?_
  refine lv_iload hx hb dL_law_258 (lv_at hl 4 rfl) ?_
  refine lv_iconst (v := 1) hx hb dL_law_260 (by decide) ?_
  refine xe_iadd hx hb (nI_add (7 * i) 1) dL_law_261 ?_
  refine va_sld hx hb hXs hbl (Nat.not_le.mpr hbl) hS (vp_in_nI (show 7 * i + 1 < L by omega) (by omega)) dL_law_262 ?_
  rw [nI_clamp (show 7 * i + 1 < 2 ^ 31 by omega)]
  refine lv_aload_n hx hb dL_law_263 rfl (lv_at hl 0 rfl) ?_
  refine lv_iload hx hb dL_law_264 (lv_at hl 4 rfl) ?_
  refine lv_iconst (v := 2) hx hb dL_law_266 (by decide) ?_
  refine xe_iadd hx hb (nI_add (7 * i) 2) dL_law_267 ?_
  refine va_sld hx hb hXs hbl (Nat.not_le.mpr hbl) hS (vp_in_nI (show 7 * i + 2 < L by omega) (by omega)) dL_law_268 ?_
  rw [nI_clamp (show 7 * i + 2 < 2 ^ 31 by omega)]
  refine lv_aload_n hx hb dL_law_269 rfl (lv_at hl 0 rfl) ?_
  refine lv_iload hx hb dL_law_270 (lv_at hl 4 rfl) ?_
  refine lv_iconst (v := 3) hx hb dL_law_272 (by decide) ?_
  refine xe_iadd hx hb (nI_add (7 * i) 3) dL_law_273 ?_
  refine va_sld hx hb hXs hbl (Nat.not_le.mpr hbl) hS (vp_in_nI (show 7 * i + 3 < L by omega) (by omega)) dL_law_274 ?_
  rw [nI_clamp (show 7 * i + 3 < 2 ^ 31 by omega)]
  have hAn : ∀ q, H.size ≤ q → aC s.heap.size h1 ou q := fun q h => ⟨by have := hS.1; omega, by omega, by omega⟩
  have hBA : ∀ q, (aC s.heap.size h1 ou q ∨ False) → s.heap.size ≤ q := fun q h => h.elim (fun h => h.1) (fun e => e.elim)
  refine xl_lcall0 (vx_runSW (As := [.ref o, .int (xs (7 * i + 1)), .int (xs (7 * i + 2)), .int (xs (7 * i + 3))]) (rest := []) ⟨hx, hb, hml, hown, hts⟩ (c_L_move l hst D cA (aC s.heap.size h1 ou) z o σ.2.1 nC nL nV hi H (xs (7 * i + 1)) (xs (7 * i + 2)) (xs (7 * i + 3)) hAn) (vx_cwSW 4 hts gL_law_L_move rfl rfl rfl (by decide +kernel) ⟨(Nat.le_of_ble_eq_true rfl), (Nat.le_of_ble_eq_true rfl)⟩) (xPXS hK lK.blind (fun U hU hW => hX.at hS hBA hU hW) ⟨rfl, hC⟩) rfl rfl hl.1 rfl (lv_room (Nat.le_of_ble_eq_true rfl)) dL_law_275 ⟨by show 40 + 10 * i + 3 ≤ 601024; omega, by show 70000 + 1200 * i + 18 ≤ 7293034; omega⟩) hS (fun q _ h => hBA q h) (fun q h => hBA q h) (fun H locs hJ z9 q9 hS => ?_)
  have hM := hM.keptA (fun q g1 g2 => q9 q g1 (fun h => h.elim (fun h => h.2.1 g2) (fun e => e.elim)))
  have hO := x_kept hO (q9 _ (q_lt hO) (fun h => h.elim (fun h => h.2.2 rfl) (fun e => e.elim)))
  have hou9 : ou < H.size := Nat.lt_of_lt_of_le hou9 z9
  refine lv_istore (lv' := [(5, .int (kMv nC (xs (7 * i + 1)) (xs (7 * i + 2)) (xs (7 * i + 3)))), (0, .ref b), (1, .ref o), (2, .ref M), (3, .ref ou), (4, .int (nI (7 * i)))]) hx hb dL_law_278 hl (by decide) rfl (fun ls hl => ?_)
  refine lv_aload_n hx hb dL_law_280 rfl (lv_at hl 3 rfl) ?_
  refine lv_aload_n hx hb dL_law_281 rfl (lv_at hl 1 rfl) ?_
  refine lv_iload hx hb dL_law_282 (lv_at hl 5 rfl) ?_
  refine lv_iconst (v := 1) hx hb dL_law_284 (by decide) ?_
  refine xe_iadd hx hb (nI_add (7 * i) 1) dL_law_285 ?_
  refine va_sld hx hb hXs hbl (Nat.not_le.mpr hbl) hS (vp_in_nI (show 7 * i + 1 < L by omega) (by omega)) dL_law_286 ?_
  rw [nI_clamp (show 7 * i + 1 < 2 ^ 31 by omega)]
  refine lv_aload_n hx hb dL_law_287 rfl (lv_at hl 1 rfl) ?_
  refine lv_iload hx hb dL_law_288 (lv_at hl 5 rfl) ?_
  refine lv_iconst (v := 2) hx hb dL_law_290 (by decide) ?_
  refine xe_iadd hx hb (nI_add (7 * i) 2) dL_law_291 ?_
  refine va_sld hx hb hXs hbl (Nat.not_le.mpr hbl) hS (vp_in_nI (show 7 * i + 2 < L by omega) (by omega)) dL_law_292 ?_
  rw [nI_clamp (show 7 * i + 2 < 2 ^ 31 by omega)]
  refine lv_aload_n hx hb dL_law_293 rfl (lv_at hl 1 rfl) ?_
  refine lv_iload hx hb dL_law_294 (lv_at hl 5 rfl) ?_
  refine lv_iconst (v := 3) hx hb dL_law_296 (by decide) ?_
  refine xe_iadd hx hb (nI_add (7 * i) 3) dL_law_297 ?_
  refine va_sld hx hb hXs hbl (Nat.not_le.mpr hbl) hS (vp_in_nI (show 7 * i + 3 < L by omega) (by omega)) dL_law_298 ?_
  rw [nI_clamp (show 7 * i + 3 < 2 ^ 31 by omega)]
  have hMA : ∀ q, aM h1 ou q → s.heap.size ≤ q := fun q h => Nat.le_trans h01 h.1
  refine xl_mvoid (va_runV (As := [.int (xs (7 * i + 1)), .int (xs (7 * i + 2)), .int (xs (7 * i + 3))]) (rest := []) ⟨hx, hb, hml, hown, hts⟩ (c_X7_move l D cA (aM h1 ou) M ad σ (xs (7 * i + 1)) (xs (7 * i + 2)) (xs (7 * i + 3)) nC hn.1 hi.1) (cwV 3 hts gL_law_X7_move rfl rfl rfl (by decide +kernel) ⟨(Nat.le_of_ble_eq_true rfl), (Nat.le_of_ble_eq_true rfl)⟩) (xPV hK hM.1 rfl hM) rfl rfl hl.1 rfl (lv_room (Nat.le_of_ble_eq_true rfl)) dL_law_299 ⟨by show 40 + 10 * i + 3 + 0 ≤ 601024; omega, by show 70000 + 1200 * i + 18 + 0 ≤ 7293034; omega⟩) hS (fun q _ h => hMA q h) (fun q h => hMA q h) (fun σ2 H locs hM2 ht hne heq z8 q8 hS => ?_)
  have hou9 : ou < H.size := Nat.lt_of_lt_of_le hou9 z8
  refine lv_aload_n hx hb dL_law_302 rfl (lv_at hl 3 rfl) ?_
  refine xr_call (va_runV (As := []) (rest := []) ⟨hx, hb, hml, hown, hts⟩ (c_X7_thrown l D cA (aM h1 ou) M ad σ2) (cwV 0 hts gL_law_X7_thrown rfl rfl rfl (by decide +kernel) ⟨(Nat.le_of_ble_eq_true rfl), (Nat.le_of_ble_eq_true rfl)⟩) (xPV hK hM2.1 rfl hM2) rfl rfl hl.1 rfl (lv_room (Nat.le_of_ble_eq_true rfl)) dL_law_303 ⟨by show 40 + 10 * i + 3 + 0 + 0 ≤ 601024; omega, by show 70000 + 1200 * i + 18 + 0 + 0 ≤ 7293034; omega⟩) ?_
  refine xe_top (y := (kMv nC (xs (7 * i + 1)) (xs (7 * i + 2)) (xs (7 * i + 3)))) (show σ2.1 25 = (kMv nC (xs (7 * i + 1)) (xs (7 * i + 2)) (xs (7 * i + 3))) from ht) ?_
  refine lv_iload hx hb dL_law_306 (lv_at hl 0 rfl) ?_
  refine lv_icmp_eq (tgt := 313) hx hb dL_law_308 (by decide) (fun _ => ?_) (fun q => absurd rfl q)
  rcases hJ with ⟨hk, hP⟩ | ⟨hk, hP⟩
  · have hC2 := hP.same (fun q g1 g2 => q8 q g1 (fun h => g2.2.1 h))
    have hO := x_kept hO (q8 _ (q_lt hO) (fun h => absurd h.2 (Nat.lt_irrefl _)))
    have hp := heq hk
    refine lv_goto (tgt := 2489) hx hb dL_law_313 (by decide) ?_
    refine lv_iinc (v := (nI (7 * (i + 1)))) (lv' := [(4, .int (nI (7 * (i + 1)))), (5, .int (kMv nC (xs (7 * i + 1)) (xs (7 * i + 2)) (xs (7 * i + 3)))), (0, .ref b), (1, .ref o), (2, .ref M), (3, .ref ou)]) hx hb dL_law_2489 hl (k := 5) rfl (ni_inc7 i) (by decide) rfl (fun ls hl => ?_)
    refine lv_goto (tgt := 23) hx hb dL_law_2492 (by decide) ?_
    exact W.widen (k := 40 + 10 * (i + 1)) (n := 70000 + 1200 * (i + 1)) (by omega) (by omega) (ih _ _ _ (li_end hou9 ⟨_, hO⟩ hM2 hp hn hC2 (hi.mv (ix (xs (7 * i + 1))) (xs (7 * i + 2)) (xs (7 * i + 3))) (by omega)) hS (lv_sub hl [2, 3, 4, 5, 0] rfl))
  · have hC2 := hP.same (fun q g1 g2 => q8 q g1 (fun h => g2.2.1 h))
    have hO := x_kept hO (q8 _ (q_lt hO) (fun h => absurd h.2 (Nat.lt_irrefl _)))
    have hp := hne hk
    refine lv_goto (tgt := 2489) hx hb dL_law_313 (by decide) ?_
    refine lv_iinc (v := (nI (7 * (i + 1)))) (lv' := [(4, .int (nI (7 * (i + 1)))), (5, .int (kMv nC (xs (7 * i + 1)) (xs (7 * i + 2)) (xs (7 * i + 3)))), (0, .ref b), (1, .ref o), (2, .ref M), (3, .ref ou)]) hx hb dL_law_2489 hl (k := 5) rfl (ni_inc7 i) (by decide) rfl (fun ls hl => ?_)
    refine lv_goto (tgt := 23) hx hb dL_law_2492 (by decide) ?_
    exact W.widen (k := 40 + 10 * (i + 1)) (n := 70000 + 1200 * (i + 1)) (by omega) (by omega) (ih _ _ _ (li_end hou9 ⟨_, hO⟩ hM2 hp hn hC2 hi (by omega)) hS (lv_sub hl [2, 3, 4, 5, 0] rfl))
set_option maxHeartbeats 4000000 in
set_option maxRecDepth 100000 in
theorem lw_c2 {p : Program} {l : Launch} {e : Env} {s : State} {m : MethodId} {below : List Frame} {meth : Method} {c : Code} {b L : Nat} {xs : Nat → Int32} {Q : State → Prop} (hx : p.tables.exec = Jvm.exec) (hb : c.code = cL_law) (hml : c.maxLocals = 8) (hown : s.vm.findClass RL = some m.cls) (hts : ∀ w ∈ wsL_law, w.before #[Value.ref b] s = true) {D : va_G} {cA : Nat → ClassId} (hK : xK D cA s) {z o M h1 ou : Nat} {ad : Nat → Nat} (hX : lK (fun q => s.heap.size ≤ q) z s) (hXs : va_X b L xs s s.heap) (hbl : b < s.heap.size) (hL : L ≤ 3584) (hst : l.stackTraces = false) (h01 : s.heap.size ≤ h1) (h1u : h1 ≤ ou) {i : Nat} (hi9 : 7 * i + 7 ≤ L) {H : Heap} {locs : List Loc} {ls : Array Slot} (hI : LI D cA s.heap.size h1 ou z o M ad i H) (hS : va_S (fun q => s.heap.size ≤ q) s.heap H locs) (hl : lv_has ls 8 [(0, .ref b), (1, .ref o), (2, .ref M), (3, .ref ou), (4, .int (nI (7 * i)))]) (ih : ∀ (H2 : Heap) (locs2 : List Loc) (ls2 : Array Slot), LI D cA s.heap.size h1 ou z o M ad (i + 1) H2 → va_S (fun q => s.heap.size ≤ q) s.heap H2 locs2 → lv_has ls2 8 [(0, .ref b), (1, .ref o), (2, .ref M), (3, .ref ou), (4, .int (nI (7 * (i + 1))))] → W p l e room_1 s m #[Value.ref b] below meth c H2 locs2 (40 + 10 * (i + 1)) (70000 + 1200 * (i + 1)) Q (F0 m 23 ls2 [])) : W p l e room_1 s m #[Value.ref b] below meth c H locs (40 + 10 * i) (70000 + 1200 * i) Q (F0 m 316 ls []) := by
  obtain ⟨hou9, ⟨o1, hO⟩, σ, nC, nL, nV, hM, hn, hC, hi, hv⟩ := hI
  have hi5 : i ≤ 511 := by omega
  refine lv_aload_n hx hb dL_law_316 rfl (lv_at hl 1 rfl) ?_
  have hC0 := hC
  obtain ⟨lab, nm, rf, hV9, hl9, hIQ, hz9, ho9⟩ := hC0
  have ct := c_X6_clients l hst D cA lab nm rf σ.2.1 nC nL nV hi (aC s.heap.size h1 ou) hl9 H
  have hT9 := hV9.1
  rw [ho9] at hT9
  rw [ho9, hz9] at ct
  refine xl_call (vx_runV (As := []) (rest := []) ⟨hx, hb, hml, hown, hts⟩ ct (cwV 0 hts gL_law_X6_clients rfl rfl rfl (by decide +kernel) ⟨(Nat.le_of_ble_eq_true rfl), (Nat.le_of_ble_eq_true rfl)⟩) (xPXV hK pK.blind (fun U hU hW => hX.1.at hS (fun q h => h.1) hU hW) hT9 rfl ⟨rfl, hV9, hIQ⟩) rfl rfl hl.1 rfl (lv_room (Nat.le_of_ble_eq_true rfl)) dL_law_317 ⟨by show 40 + 10 * i + 3 ≤ 601024; omega, by show 70000 + 1200 * i + 18 ≤ 7293034; omega⟩) hS (fun q _ h => h.1) (fun q h => h.1) (fun hk0 => absurd rfl hk0) (fun _ H locs hP z9 q9 hS => ?_)
  have hM := hM.keptA (fun q g1 g2 => q9 q g1 (fun h => h.2.1 g2))
  have hO := x_kept hO (q9 _ (q_lt hO) (fun h => h.2.2 rfl))
  have hou9 : ou < H.size := Nat.lt_of_lt_of_le hou9 z9
  refine lv_aload_n hx hb dL_law_320 rfl (lv_at hl 2 rfl) ?_
  have hMA : ∀ q, aM h1 ou q → s.heap.size ≤ q := fun q h => Nat.le_trans h01 h.1
  refine xl_mint (va_runV (As := []) (rest := [.int (nI nC)]) ⟨hx, hb, hml, hown, hts⟩ (c_X7_clients l D cA (aM h1 ou) M ad σ nC hn.1 hi.1) (cwV 0 hts gL_law_X7_clients rfl rfl rfl (by decide +kernel) ⟨(Nat.le_of_ble_eq_true rfl), (Nat.le_of_ble_eq_true rfl)⟩) (xPV hK hM.1 rfl hM) rfl rfl hl.1 rfl (lv_room (Nat.le_of_ble_eq_true rfl)) dL_law_321 ⟨by show 40 + 10 * i + 3 + 0 ≤ 601024; omega, by show 70000 + 1200 * i + 18 + 0 ≤ 7293034; omega⟩) hS (fun q _ h => hMA q h) (fun q h => hMA q h) (fun y σ2 H locs hM2 ht hne heq z8 q8 hS => ?_)
  have hou9 : ou < H.size := Nat.lt_of_lt_of_le hou9 z8
  refine lv_icmp_eq (tgt := 2489) hx hb dL_law_324 (by decide) (fun _ => ?_) (fun q => absurd (heq rfl).1.symm q)
  have hC2 := hP.same (fun q g1 g2 => q8 q g1 (fun h => g2.2.1 h))
  have hO := x_kept hO (q8 _ (q_lt hO) (fun h => absurd h.2 (Nat.lt_irrefl _)))
  have hp := (heq rfl).2
  refine lv_iinc (v := (nI (7 * (i + 1)))) (lv' := [(4, .int (nI (7 * (i + 1)))), (0, .ref b), (1, .ref o), (2, .ref M), (3, .ref ou)]) hx hb dL_law_2489 hl (k := 4) rfl (ni_inc7 i) (by decide) rfl (fun ls hl => ?_)
  refine lv_goto (tgt := 23) hx hb dL_law_2492 (by decide) ?_
  exact W.widen (k := 40 + 10 * (i + 1)) (n := 70000 + 1200 * (i + 1)) (by omega) (by omega) (ih _ _ _ (li_end hou9 ⟨_, hO⟩ hM2 hp hn hC2 hi (by omega)) hS (lv_sub hl [1, 2, 3, 4, 0] rfl))
set_option maxHeartbeats 4000000 in
set_option maxRecDepth 100000 in
theorem lw_c3 {p : Program} {l : Launch} {e : Env} {s : State} {m : MethodId} {below : List Frame} {meth : Method} {c : Code} {b L : Nat} {xs : Nat → Int32} {Q : State → Prop} (hx : p.tables.exec = Jvm.exec) (hb : c.code = cL_law) (hml : c.maxLocals = 8) (hown : s.vm.findClass RL = some m.cls) (hts : ∀ w ∈ wsL_law, w.before #[Value.ref b] s = true) {D : va_G} {cA : Nat → ClassId} (hK : xK D cA s) {z o M h1 ou : Nat} {ad : Nat → Nat} (hX : lK (fun q => s.heap.size ≤ q) z s) (hXs : va_X b L xs s s.heap) (hbl : b < s.heap.size) (hL : L ≤ 3584) (hst : l.stackTraces = false) (h01 : s.heap.size ≤ h1) (h1u : h1 ≤ ou) {i : Nat} (hi9 : 7 * i + 7 ≤ L) {H : Heap} {locs : List Loc} {ls : Array Slot} (hI : LI D cA s.heap.size h1 ou z o M ad i H) (hS : va_S (fun q => s.heap.size ≤ q) s.heap H locs) (hl : lv_has ls 8 [(0, .ref b), (1, .ref o), (2, .ref M), (3, .ref ou), (4, .int (nI (7 * i)))]) (ih : ∀ (H2 : Heap) (locs2 : List Loc) (ls2 : Array Slot), LI D cA s.heap.size h1 ou z o M ad (i + 1) H2 → va_S (fun q => s.heap.size ≤ q) s.heap H2 locs2 → lv_has ls2 8 [(0, .ref b), (1, .ref o), (2, .ref M), (3, .ref ou), (4, .int (nI (7 * (i + 1))))] → W p l e room_1 s m #[Value.ref b] below meth c H2 locs2 (40 + 10 * (i + 1)) (70000 + 1200 * (i + 1)) Q (F0 m 23 ls2 [])) : W p l e room_1 s m #[Value.ref b] below meth c H locs (40 + 10 * i) (70000 + 1200 * i) Q (F0 m 329 ls []) := by
  obtain ⟨hou9, ⟨o1, hO⟩, σ, nC, nL, nV, hM, hn, hC, hi, hv⟩ := hI
  have hi5 : i ≤ 511 := by omega
  refine lv_aload_n hx hb dL_law_329 rfl (lv_at hl 1 rfl) ?_
  refine lv_aload_n hx hb dL_law_330 rfl (lv_at hl 0 rfl) ?_
  refine lv_iload hx hb dL_law_331 (lv_at hl 4 rfl) ?_
  refine lv_iconst (v := 1) hx hb dL_law_333 (by decide) ?_
  refine xe_iadd hx hb (nI_add (7 * i) 1) dL_law_334 ?_
  refine va_sld hx hb hXs hbl (Nat.not_le.mpr hbl) hS (vp_in_nI (show 7 * i + 1 < L by omega) (by omega)) dL_law_335 ?_
  rw [nI_clamp (show 7 * i + 1 < 2 ^ 31 by omega)]
  refine lv_aload_n hx hb dL_law_336 rfl (lv_at hl 0 rfl) ?_
  refine lv_iload hx hb dL_law_337 (lv_at hl 4 rfl) ?_
  refine lv_iconst (v := 2) hx hb dL_law_339 (by decide) ?_
  refine xe_iadd hx hb (nI_add (7 * i) 2) dL_law_340 ?_
  refine va_sld hx hb hXs hbl (Nat.not_le.mpr hbl) hS (vp_in_nI (show 7 * i + 2 < L by omega) (by omega)) dL_law_341 ?_
  rw [nI_clamp (show 7 * i + 2 < 2 ^ 31 by omega)]
  refine lv_aload_n hx hb dL_law_342 rfl (lv_at hl 0 rfl) ?_
  refine lv_iload hx hb dL_law_343 (lv_at hl 4 rfl) ?_
  refine lv_iconst (v := 3) hx hb dL_law_345 (by decide) ?_
  refine xe_iadd hx hb (nI_add (7 * i) 3) dL_law_346 ?_
  refine va_sld hx hb hXs hbl (Nat.not_le.mpr hbl) hS (vp_in_nI (show 7 * i + 3 < L by omega) (by omega)) dL_law_347 ?_
  rw [nI_clamp (show 7 * i + 3 < 2 ^ 31 by omega)]
  refine lv_aload_n hx hb dL_law_348 rfl (lv_at hl 3 rfl) ?_
  have hou8 : ¬ aC s.heap.size h1 ou ou := fun h => h.2.2 rfl
  have hAn : ∀ q, H.size ≤ q → aC s.heap.size h1 ou q := fun q h => ⟨by have := hS.1; omega, by omega, by omega⟩
  have hBA : ∀ q, (aC s.heap.size h1 ou q ∨ q = ou) → s.heap.size ≤ q := fun q h => h.elim (fun h => h.1) (fun e => by omega)
  refine xl_lcall (vx_runSW (As := [.ref o, .int (xs (7 * i + 1)), .int (xs (7 * i + 2)), .int (xs (7 * i + 3)), .ref ou]) (rest := []) ⟨hx, hb, hml, hown, hts⟩ (c_L_layer l hst D cA (aC s.heap.size h1 ou) z o ou σ.2.1 nC nL nV hi H (xs (7 * i + 1)) (xs (7 * i + 2)) (xs (7 * i + 3)) hou8 hAn) (vx_cwSW 5 hts gL_law_L_layer rfl rfl rfl (by decide +kernel) ⟨(Nat.le_of_ble_eq_true rfl), (Nat.le_of_ble_eq_true rfl)⟩) (xPXS hK lK.blind (fun U hU hW => hX.at hS hBA hU hW) ⟨rfl, hC, _, hO⟩) rfl rfl hl.1 rfl (lv_room (Nat.le_of_ble_eq_true rfl)) dL_law_349 ⟨by show 40 + 10 * i + 9 ≤ 601024; omega, by show 70000 + 1200 * i + 1080 ≤ 7293034; omega⟩) hS (fun q _ h => hBA q h) (fun q h => hBA q h) (fun H locs hJ z9 q9 hS => ?_)
  have hM := hM.keptA (fun q g1 g2 => q9 q g1 (fun h => h.elim (fun h => h.2.1 g2) (fun e => by have := g2.2; omega)))
  have hou9 : ou < H.size := Nat.lt_of_lt_of_le hou9 z9
  refine lv_istore (lv' := [(5, .int (kLy nL (xs (7 * i + 1)) (xs (7 * i + 2)) (xs (7 * i + 3)))), (0, .ref b), (1, .ref o), (2, .ref M), (3, .ref ou), (4, .int (nI (7 * i)))]) hx hb dL_law_352 hl (by decide) rfl (fun ls hl => ?_)
  refine lv_aload_n hx hb dL_law_354 rfl (lv_at hl 3 rfl) ?_
  refine lv_aload_n hx hb dL_law_355 rfl (lv_at hl 1 rfl) ?_
  refine lv_iload hx hb dL_law_356 (lv_at hl 5 rfl) ?_
  refine lv_iconst (v := 1) hx hb dL_law_358 (by decide) ?_
  refine xe_iadd hx hb (nI_add (7 * i) 1) dL_law_359 ?_
  refine va_sld hx hb hXs hbl (Nat.not_le.mpr hbl) hS (vp_in_nI (show 7 * i + 1 < L by omega) (by omega)) dL_law_360 ?_
  rw [nI_clamp (show 7 * i + 1 < 2 ^ 31 by omega)]
  refine lv_aload_n hx hb dL_law_361 rfl (lv_at hl 1 rfl) ?_
  refine lv_iload hx hb dL_law_362 (lv_at hl 5 rfl) ?_
  refine lv_iconst (v := 2) hx hb dL_law_364 (by decide) ?_
  refine xe_iadd hx hb (nI_add (7 * i) 2) dL_law_365 ?_
  refine va_sld hx hb hXs hbl (Nat.not_le.mpr hbl) hS (vp_in_nI (show 7 * i + 2 < L by omega) (by omega)) dL_law_366 ?_
  rw [nI_clamp (show 7 * i + 2 < 2 ^ 31 by omega)]
  refine lv_aload_n hx hb dL_law_367 rfl (lv_at hl 1 rfl) ?_
  refine lv_iload hx hb dL_law_368 (lv_at hl 5 rfl) ?_
  refine lv_iconst (v := 3) hx hb dL_law_370 (by decide) ?_
  refine xe_iadd hx hb (nI_add (7 * i) 3) dL_law_371 ?_
  refine va_sld hx hb hXs hbl (Nat.not_le.mpr hbl) hS (vp_in_nI (show 7 * i + 3 < L by omega) (by omega)) dL_law_372 ?_
  rw [nI_clamp (show 7 * i + 3 < 2 ^ 31 by omega)]
  have hMA : ∀ q, aM h1 ou q → s.heap.size ≤ q := fun q h => Nat.le_trans h01 h.1
  refine xl_mint (va_runV (As := [.int (xs (7 * i + 1)), .int (xs (7 * i + 2)), .int (xs (7 * i + 3))]) (rest := []) ⟨hx, hb, hml, hown, hts⟩ (c_X7_layer l D cA (aM h1 ou) M ad σ (xs (7 * i + 1)) (xs (7 * i + 2)) (xs (7 * i + 3)) nL hn.2.1 hi.2.1) (cwV 3 hts gL_law_X7_layer rfl rfl rfl (by decide +kernel) ⟨(Nat.le_of_ble_eq_true rfl), (Nat.le_of_ble_eq_true rfl)⟩) (xPV hK hM.1 rfl hM) rfl rfl hl.1 rfl (lv_room (Nat.le_of_ble_eq_true rfl)) dL_law_373 ⟨by show 40 + 10 * i + 9 + 0 ≤ 601024; omega, by show 70000 + 1200 * i + 1080 + 0 ≤ 7293034; omega⟩) hS (fun q _ h => hMA q h) (fun q h => hMA q h) (fun y σ2 H locs hM2 ht hne heq z8 q8 hS => ?_)
  have hou9 : ou < H.size := Nat.lt_of_lt_of_le hou9 z8
  refine lv_istore (lv' := [(6, .int y), (5, .int (kLy nL (xs (7 * i + 1)) (xs (7 * i + 2)) (xs (7 * i + 3)))), (0, .ref b), (1, .ref o), (2, .ref M), (3, .ref ou), (4, .int (nI (7 * i)))]) hx hb dL_law_376 hl (by decide) rfl (fun ls hl => ?_)
  refine lv_aload_n hx hb dL_law_378 rfl (lv_at hl 4 rfl) ?_
  refine xr_call (va_runV (As := []) (rest := []) ⟨hx, hb, hml, hown, hts⟩ (c_X7_thrown l D cA (aM h1 ou) M ad σ2) (cwV 0 hts gL_law_X7_thrown rfl rfl rfl (by decide +kernel) ⟨(Nat.le_of_ble_eq_true rfl), (Nat.le_of_ble_eq_true rfl)⟩) (xPV hK hM2.1 rfl hM2) rfl rfl hl.1 rfl (lv_room (Nat.le_of_ble_eq_true rfl)) dL_law_379 ⟨by show 40 + 10 * i + 9 + 0 + 0 ≤ 601024; omega, by show 70000 + 1200 * i + 1080 + 0 + 0 ≤ 7293034; omega⟩) ?_
  refine xe_top (y := (kLy nL (xs (7 * i + 1)) (xs (7 * i + 2)) (xs (7 * i + 3)))) (show σ2.1 25 = (kLy nL (xs (7 * i + 1)) (xs (7 * i + 2)) (xs (7 * i + 3))) from ht) ?_
  refine lv_iload hx hb dL_law_382 (lv_at hl 1 rfl) ?_
  refine lv_icmp_eq (tgt := 389) hx hb dL_law_384 (by decide) (fun _ => ?_) (fun q => absurd rfl q)
  rcases hJ with ⟨hk, hP, hO⟩ | ⟨hk, hP, o2, hO⟩
  · have hC2 := hP.same (fun q g1 g2 => q8 q g1 (fun h => g2.2.1 h))
    have hO := x_kept hO (q8 _ (q_lt hO) (fun h => absurd h.2 (Nat.lt_irrefl _)))
    obtain ⟨hy, hp⟩ := heq hk
    refine lv_iload hx hb dL_law_389 (lv_at hl 1 rfl) ?_
    refine lv_if_ne (tgt := 406) hx hb dL_law_391 (by decide) (fun q => absurd hk q) (fun _ => ?_)
    refine lv_aload_n hx hb dL_law_394 rfl (lv_at hl 5 rfl) ?_
    refine lv_iconst (v := 0) hx hb dL_law_395 (by decide) ?_
    refine x_lald hx hb hK hO 0 rfl (by omega) (by decide) dL_law_396 ?_
    refine lv_iload hx hb dL_law_397 (lv_at hl 0 rfl) ?_
    refine lv_i2l hx hb dL_law_399 rfl ?_
    refine xe_lcmp hx hb dL_law_400 (fun v9 hv9 => ?_)
    refine lv_if_eq (tgt := 406) hx hb dL_law_401 (by decide) (fun _ => ?_) (fun q => absurd (hv9.mpr (show ((nI nL).toInt64) = (y).toInt64 from by subst hy; rfl)) q)
    refine lv_goto (tgt := 2489) hx hb dL_law_406 (by decide) ?_
    refine lv_iinc (v := (nI (7 * (i + 1)))) (lv' := [(4, .int (nI (7 * (i + 1)))), (6, .int y), (5, .int (kLy nL (xs (7 * i + 1)) (xs (7 * i + 2)) (xs (7 * i + 3)))), (0, .ref b), (1, .ref o), (2, .ref M), (3, .ref ou)]) hx hb dL_law_2489 hl (k := 6) rfl (ni_inc7 i) (by decide) rfl (fun ls hl => ?_)
    refine lv_goto (tgt := 23) hx hb dL_law_2492 (by decide) ?_
    exact W.widen (k := 40 + 10 * (i + 1)) (n := 70000 + 1200 * (i + 1)) (by omega) (by omega) (ih _ _ _ (li_end hou9 ⟨_, hO⟩ hM2 hp (mN_ly hn (xs (7 * i + 1)) (xs (7 * i + 2)) (xs (7 * i + 3))) hC2 (hi.ly hk) (by omega)) hS (lv_sub hl [3, 4, 5, 6, 0] rfl))
  · have hC2 := hP.same (fun q g1 g2 => q8 q g1 (fun h => g2.2.1 h))
    have hO := x_kept hO (q8 _ (q_lt hO) (fun h => absurd h.2 (Nat.lt_irrefl _)))
    have hp := hne hk
    refine lv_iload hx hb dL_law_389 (lv_at hl 1 rfl) ?_
    refine lv_if_ne (tgt := 406) hx hb dL_law_391 (by decide) (fun _ => ?_) (fun q => absurd q hk)
    refine lv_goto (tgt := 2489) hx hb dL_law_406 (by decide) ?_
    refine lv_iinc (v := (nI (7 * (i + 1)))) (lv' := [(4, .int (nI (7 * (i + 1)))), (6, .int y), (5, .int (kLy nL (xs (7 * i + 1)) (xs (7 * i + 2)) (xs (7 * i + 3)))), (0, .ref b), (1, .ref o), (2, .ref M), (3, .ref ou)]) hx hb dL_law_2489 hl (k := 6) rfl (ni_inc7 i) (by decide) rfl (fun ls hl => ?_)
    refine lv_goto (tgt := 23) hx hb dL_law_2492 (by decide) ?_
    exact W.widen (k := 40 + 10 * (i + 1)) (n := 70000 + 1200 * (i + 1)) (by omega) (by omega) (ih _ _ _ (li_end hou9 ⟨_, hO⟩ hM2 hp hn hC2 hi (by omega)) hS (lv_sub hl [3, 4, 5, 6, 0] rfl))
set_option maxHeartbeats 4000000 in
set_option maxRecDepth 100000 in
theorem lw_c4 {p : Program} {l : Launch} {e : Env} {s : State} {m : MethodId} {below : List Frame} {meth : Method} {c : Code} {b L : Nat} {xs : Nat → Int32} {Q : State → Prop} (hx : p.tables.exec = Jvm.exec) (hb : c.code = cL_law) (hml : c.maxLocals = 8) (hown : s.vm.findClass RL = some m.cls) (hts : ∀ w ∈ wsL_law, w.before #[Value.ref b] s = true) {D : va_G} {cA : Nat → ClassId} (hK : xK D cA s) {z o M h1 ou : Nat} {ad : Nat → Nat} (hX : lK (fun q => s.heap.size ≤ q) z s) (hXs : va_X b L xs s s.heap) (hbl : b < s.heap.size) (hL : L ≤ 3584) (hst : l.stackTraces = false) (h01 : s.heap.size ≤ h1) (h1u : h1 ≤ ou) {i : Nat} (hi9 : 7 * i + 7 ≤ L) {H : Heap} {locs : List Loc} {ls : Array Slot} (hI : LI D cA s.heap.size h1 ou z o M ad i H) (hS : va_S (fun q => s.heap.size ≤ q) s.heap H locs) (hl : lv_has ls 8 [(0, .ref b), (1, .ref o), (2, .ref M), (3, .ref ou), (4, .int (nI (7 * i)))]) (ih : ∀ (H2 : Heap) (locs2 : List Loc) (ls2 : Array Slot), LI D cA s.heap.size h1 ou z o M ad (i + 1) H2 → va_S (fun q => s.heap.size ≤ q) s.heap H2 locs2 → lv_has ls2 8 [(0, .ref b), (1, .ref o), (2, .ref M), (3, .ref ou), (4, .int (nI (7 * (i + 1))))] → W p l e room_1 s m #[Value.ref b] below meth c H2 locs2 (40 + 10 * (i + 1)) (70000 + 1200 * (i + 1)) Q (F0 m 23 ls2 [])) : W p l e room_1 s m #[Value.ref b] below meth c H locs (40 + 10 * i) (70000 + 1200 * i) Q (F0 m 409 ls []) := by
  obtain ⟨hou9, ⟨o1, hO⟩, σ, nC, nL, nV, hM, hn, hC, hi, hv⟩ := hI
  have hi5 : i ≤ 511 := by omega
  refine lv_aload_n hx hb dL_law_409 rfl (lv_at hl 1 rfl) ?_
  refine lv_aload_n hx hb dL_law_410 rfl (lv_at hl 0 rfl) ?_
  refine lv_iload hx hb dL_law_411 (lv_at hl 4 rfl) ?_
  refine lv_iconst (v := 1) hx hb dL_law_413 (by decide) ?_
  refine xe_iadd hx hb (nI_add (7 * i) 1) dL_law_414 ?_
  refine va_sld hx hb hXs hbl (Nat.not_le.mpr hbl) hS (vp_in_nI (show 7 * i + 1 < L by omega) (by omega)) dL_law_415 ?_
  rw [nI_clamp (show 7 * i + 1 < 2 ^ 31 by omega)]
  refine lv_aload_n hx hb dL_law_416 rfl (lv_at hl 0 rfl) ?_
  refine lv_iload hx hb dL_law_417 (lv_at hl 4 rfl) ?_
  refine lv_iconst (v := 2) hx hb dL_law_419 (by decide) ?_
  refine xe_iadd hx hb (nI_add (7 * i) 2) dL_law_420 ?_
  refine va_sld hx hb hXs hbl (Nat.not_le.mpr hbl) hS (vp_in_nI (show 7 * i + 2 < L by omega) (by omega)) dL_law_421 ?_
  rw [nI_clamp (show 7 * i + 2 < 2 ^ 31 by omega)]
  refine lv_aload_n hx hb dL_law_422 rfl (lv_at hl 3 rfl) ?_
  have hou8 : ¬ aC s.heap.size h1 ou ou := fun h => h.2.2 rfl
  have hAn : ∀ q, H.size ≤ q → aC s.heap.size h1 ou q := fun q h => ⟨by have := hS.1; omega, by omega, by omega⟩
  have hBA : ∀ q, (aC s.heap.size h1 ou q ∨ q = ou) → s.heap.size ≤ q := fun q h => h.elim (fun h => h.1) (fun e => by omega)
  refine xl_lcall (vx_runSW (As := [.ref o, .int (xs (7 * i + 1)), .int (xs (7 * i + 2)), .ref ou]) (rest := []) ⟨hx, hb, hml, hown, hts⟩ (c_L_rank l hst D cA (aC s.heap.size h1 ou) z o ou σ.2.1 nC nL nV hi H (xs (7 * i + 1)) (xs (7 * i + 2)) hou8 hAn) (vx_cwSW 4 hts gL_law_L_rank rfl rfl rfl (by decide +kernel) ⟨(Nat.le_of_ble_eq_true rfl), (Nat.le_of_ble_eq_true rfl)⟩) (xPXS hK lK.blind (fun U hU hW => hX.at hS hBA hU hW) ⟨rfl, hC, _, hO⟩) rfl rfl hl.1 rfl (lv_room (Nat.le_of_ble_eq_true rfl)) dL_law_423 ⟨by show 40 + 10 * i + 3 ≤ 601024; omega, by show 70000 + 1200 * i + 18 ≤ 7293034; omega⟩) hS (fun q _ h => hBA q h) (fun q h => hBA q h) (fun H locs hJ z9 q9 hS => ?_)
  have hM := hM.keptA (fun q g1 g2 => q9 q g1 (fun h => h.elim (fun h => h.2.1 g2) (fun e => by have := g2.2; omega)))
  have hou9 : ou < H.size := Nat.lt_of_lt_of_le hou9 z9
  refine lv_istore (lv' := [(5, .int (kRk nL (xs (7 * i + 1)) (xs (7 * i + 2)))), (0, .ref b), (1, .ref o), (2, .ref M), (3, .ref ou), (4, .int (nI (7 * i)))]) hx hb dL_law_426 hl (by decide) rfl (fun ls hl => ?_)
  refine lv_aload_n hx hb dL_law_428 rfl (lv_at hl 3 rfl) ?_
  refine lv_aload_n hx hb dL_law_429 rfl (lv_at hl 1 rfl) ?_
  refine lv_iload hx hb dL_law_430 (lv_at hl 5 rfl) ?_
  refine lv_iconst (v := 1) hx hb dL_law_432 (by decide) ?_
  refine xe_iadd hx hb (nI_add (7 * i) 1) dL_law_433 ?_
  refine va_sld hx hb hXs hbl (Nat.not_le.mpr hbl) hS (vp_in_nI (show 7 * i + 1 < L by omega) (by omega)) dL_law_434 ?_
  rw [nI_clamp (show 7 * i + 1 < 2 ^ 31 by omega)]
  refine lv_aload_n hx hb dL_law_435 rfl (lv_at hl 1 rfl) ?_
  refine lv_iload hx hb dL_law_436 (lv_at hl 5 rfl) ?_
  refine lv_iconst (v := 2) hx hb dL_law_438 (by decide) ?_
  refine xe_iadd hx hb (nI_add (7 * i) 2) dL_law_439 ?_
  refine va_sld hx hb hXs hbl (Nat.not_le.mpr hbl) hS (vp_in_nI (show 7 * i + 2 < L by omega) (by omega)) dL_law_440 ?_
  rw [nI_clamp (show 7 * i + 2 < 2 ^ 31 by omega)]
  have hMA : ∀ q, aM h1 ou q → s.heap.size ≤ q := fun q h => Nat.le_trans h01 h.1
  refine xl_mint (va_runV (As := [.int (xs (7 * i + 1)), .int (xs (7 * i + 2))]) (rest := []) ⟨hx, hb, hml, hown, hts⟩ (c_X7_rank l D cA (aM h1 ou) M ad σ (xs (7 * i + 1)) (xs (7 * i + 2)) nL hn.2.1 hi.2.1) (cwV 2 hts gL_law_X7_rank rfl rfl rfl (by decide +kernel) ⟨(Nat.le_of_ble_eq_true rfl), (Nat.le_of_ble_eq_true rfl)⟩) (xPV hK hM.1 rfl hM) rfl rfl hl.1 rfl (lv_room (Nat.le_of_ble_eq_true rfl)) dL_law_441 ⟨by show 40 + 10 * i + 3 + 0 ≤ 601024; omega, by show 70000 + 1200 * i + 18 + 0 ≤ 7293034; omega⟩) hS (fun q _ h => hMA q h) (fun q h => hMA q h) (fun y σ2 H locs hM2 ht hne heq z8 q8 hS => ?_)
  have hou9 : ou < H.size := Nat.lt_of_lt_of_le hou9 z8
  refine lv_istore (lv' := [(6, .int y), (5, .int (kRk nL (xs (7 * i + 1)) (xs (7 * i + 2)))), (0, .ref b), (1, .ref o), (2, .ref M), (3, .ref ou), (4, .int (nI (7 * i)))]) hx hb dL_law_444 hl (by decide) rfl (fun ls hl => ?_)
  refine lv_aload_n hx hb dL_law_446 rfl (lv_at hl 4 rfl) ?_
  refine xr_call (va_runV (As := []) (rest := []) ⟨hx, hb, hml, hown, hts⟩ (c_X7_thrown l D cA (aM h1 ou) M ad σ2) (cwV 0 hts gL_law_X7_thrown rfl rfl rfl (by decide +kernel) ⟨(Nat.le_of_ble_eq_true rfl), (Nat.le_of_ble_eq_true rfl)⟩) (xPV hK hM2.1 rfl hM2) rfl rfl hl.1 rfl (lv_room (Nat.le_of_ble_eq_true rfl)) dL_law_447 ⟨by show 40 + 10 * i + 3 + 0 + 0 ≤ 601024; omega, by show 70000 + 1200 * i + 18 + 0 + 0 ≤ 7293034; omega⟩) ?_
  refine xe_top (y := (kRk nL (xs (7 * i + 1)) (xs (7 * i + 2)))) (show σ2.1 25 = (kRk nL (xs (7 * i + 1)) (xs (7 * i + 2))) from ht) ?_
  refine lv_iload hx hb dL_law_450 (lv_at hl 1 rfl) ?_
  refine lv_icmp_eq (tgt := 457) hx hb dL_law_452 (by decide) (fun _ => ?_) (fun q => absurd rfl q)
  rcases hJ with ⟨hk, hP, hO⟩ | ⟨hk, hP, o2, hO⟩
  · have hC2 := hP.same (fun q g1 g2 => q8 q g1 (fun h => g2.2.1 h))
    have hO := x_kept hO (q8 _ (q_lt hO) (fun h => absurd h.2 (Nat.lt_irrefl _)))
    obtain ⟨hy, hp⟩ := heq hk
    refine lv_iload hx hb dL_law_457 (lv_at hl 1 rfl) ?_
    refine lv_if_ne (tgt := 474) hx hb dL_law_459 (by decide) (fun q => absurd hk q) (fun _ => ?_)
    refine lv_aload_n hx hb dL_law_462 rfl (lv_at hl 5 rfl) ?_
    refine lv_iconst (v := 0) hx hb dL_law_463 (by decide) ?_
    refine x_lald hx hb hK hO 0 rfl (by omega) (by decide) dL_law_464 ?_
    refine lv_iload hx hb dL_law_465 (lv_at hl 0 rfl) ?_
    refine lv_i2l hx hb dL_law_467 rfl ?_
    refine xe_lcmp hx hb dL_law_468 (fun v9 hv9 => ?_)
    refine lv_if_eq (tgt := 474) hx hb dL_law_469 (by decide) (fun _ => ?_) (fun q => absurd (hv9.mpr (show ((σ.2.1 3 (ix (xs (7 * i + 1)))).toInt64) = (y).toInt64 from by subst hy; rfl)) q)
    refine lv_goto (tgt := 2489) hx hb dL_law_474 (by decide) ?_
    refine lv_iinc (v := (nI (7 * (i + 1)))) (lv' := [(4, .int (nI (7 * (i + 1)))), (6, .int y), (5, .int (kRk nL (xs (7 * i + 1)) (xs (7 * i + 2)))), (0, .ref b), (1, .ref o), (2, .ref M), (3, .ref ou)]) hx hb dL_law_2489 hl (k := 6) rfl (ni_inc7 i) (by decide) rfl (fun ls hl => ?_)
    refine lv_goto (tgt := 23) hx hb dL_law_2492 (by decide) ?_
    exact W.widen (k := 40 + 10 * (i + 1)) (n := 70000 + 1200 * (i + 1)) (by omega) (by omega) (ih _ _ _ (li_end hou9 ⟨_, hO⟩ hM2 hp hn hC2 (hi.rk (ix (xs (7 * i + 1))) (xs (7 * i + 2))) (by omega)) hS (lv_sub hl [3, 4, 5, 6, 0] rfl))
  · have hC2 := hP.same (fun q g1 g2 => q8 q g1 (fun h => g2.2.1 h))
    have hO := x_kept hO (q8 _ (q_lt hO) (fun h => absurd h.2 (Nat.lt_irrefl _)))
    have hp := hne hk
    refine lv_iload hx hb dL_law_457 (lv_at hl 1 rfl) ?_
    refine lv_if_ne (tgt := 474) hx hb dL_law_459 (by decide) (fun _ => ?_) (fun q => absurd q hk)
    refine lv_goto (tgt := 2489) hx hb dL_law_474 (by decide) ?_
    refine lv_iinc (v := (nI (7 * (i + 1)))) (lv' := [(4, .int (nI (7 * (i + 1)))), (6, .int y), (5, .int (kRk nL (xs (7 * i + 1)) (xs (7 * i + 2)))), (0, .ref b), (1, .ref o), (2, .ref M), (3, .ref ou)]) hx hb dL_law_2489 hl (k := 6) rfl (ni_inc7 i) (by decide) rfl (fun ls hl => ?_)
    refine lv_goto (tgt := 23) hx hb dL_law_2492 (by decide) ?_
    exact W.widen (k := 40 + 10 * (i + 1)) (n := 70000 + 1200 * (i + 1)) (by omega) (by omega) (ih _ _ _ (li_end hou9 ⟨_, hO⟩ hM2 hp hn hC2 hi (by omega)) hS (lv_sub hl [3, 4, 5, 6, 0] rfl))
set_option maxHeartbeats 4000000 in
set_option maxRecDepth 100000 in
theorem lw_c5 {p : Program} {l : Launch} {e : Env} {s : State} {m : MethodId} {below : List Frame} {meth : Method} {c : Code} {b L : Nat} {xs : Nat → Int32} {Q : State → Prop} (hx : p.tables.exec = Jvm.exec) (hb : c.code = cL_law) (hml : c.maxLocals = 8) (hown : s.vm.findClass RL = some m.cls) (hts : ∀ w ∈ wsL_law, w.before #[Value.ref b] s = true) {D : va_G} {cA : Nat → ClassId} (hK : xK D cA s) {z o M h1 ou : Nat} {ad : Nat → Nat} (hX : lK (fun q => s.heap.size ≤ q) z s) (hXs : va_X b L xs s s.heap) (hbl : b < s.heap.size) (hL : L ≤ 3584) (hst : l.stackTraces = false) (h01 : s.heap.size ≤ h1) (h1u : h1 ≤ ou) {i : Nat} (hi9 : 7 * i + 7 ≤ L) {H : Heap} {locs : List Loc} {ls : Array Slot} (hI : LI D cA s.heap.size h1 ou z o M ad i H) (hS : va_S (fun q => s.heap.size ≤ q) s.heap H locs) (hl : lv_has ls 8 [(0, .ref b), (1, .ref o), (2, .ref M), (3, .ref ou), (4, .int (nI (7 * i)))]) (ih : ∀ (H2 : Heap) (locs2 : List Loc) (ls2 : Array Slot), LI D cA s.heap.size h1 ou z o M ad (i + 1) H2 → va_S (fun q => s.heap.size ≤ q) s.heap H2 locs2 → lv_has ls2 8 [(0, .ref b), (1, .ref o), (2, .ref M), (3, .ref ou), (4, .int (nI (7 * (i + 1))))] → W p l e room_1 s m #[Value.ref b] below meth c H2 locs2 (40 + 10 * (i + 1)) (70000 + 1200 * (i + 1)) Q (F0 m 23 ls2 [])) : W p l e room_1 s m #[Value.ref b] below meth c H locs (40 + 10 * i) (70000 + 1200 * i) Q (F0 m 477 ls []) := by
  obtain ⟨hou9, ⟨o1, hO⟩, σ, nC, nL, nV, hM, hn, hC, hi, hv⟩ := hI
  have hi5 : i ≤ 511 := by omega
  refine lv_aload_n hx hb dL_law_477 rfl (lv_at hl 1 rfl) ?_
  have hC0 := hC
  obtain ⟨lab, nm, rf, hV9, hl9, hIQ, hz9, ho9⟩ := hC0
  have ct := c_X6_layers l hst D cA lab nm rf σ.2.1 nC nL nV hi (aC s.heap.size h1 ou) hl9 H
  have hT9 := hV9.1
  rw [ho9] at hT9
  rw [ho9, hz9] at ct
  refine xl_call (vx_runV (As := []) (rest := []) ⟨hx, hb, hml, hown, hts⟩ ct (cwV 0 hts gL_law_X6_layers rfl rfl rfl (by decide +kernel) ⟨(Nat.le_of_ble_eq_true rfl), (Nat.le_of_ble_eq_true rfl)⟩) (xPXV hK pK.blind (fun U hU hW => hX.1.at hS (fun q h => h.1) hU hW) hT9 rfl ⟨rfl, hV9, hIQ⟩) rfl rfl hl.1 rfl (lv_room (Nat.le_of_ble_eq_true rfl)) dL_law_478 ⟨by show 40 + 10 * i + 3 ≤ 601024; omega, by show 70000 + 1200 * i + 18 ≤ 7293034; omega⟩) hS (fun q _ h => h.1) (fun q h => h.1) (fun hk0 => absurd rfl hk0) (fun _ H locs hP z9 q9 hS => ?_)
  have hM := hM.keptA (fun q g1 g2 => q9 q g1 (fun h => h.2.1 g2))
  have hO := x_kept hO (q9 _ (q_lt hO) (fun h => h.2.2 rfl))
  have hou9 : ou < H.size := Nat.lt_of_lt_of_le hou9 z9
  refine lv_aload_n hx hb dL_law_481 rfl (lv_at hl 2 rfl) ?_
  have hMA : ∀ q, aM h1 ou q → s.heap.size ≤ q := fun q h => Nat.le_trans h01 h.1
  refine xl_mint (va_runV (As := []) (rest := [.int (nI nL)]) ⟨hx, hb, hml, hown, hts⟩ (c_X7_layers l D cA (aM h1 ou) M ad σ nL hn.2.1 hi.2.1) (cwV 0 hts gL_law_X7_layers rfl rfl rfl (by decide +kernel) ⟨(Nat.le_of_ble_eq_true rfl), (Nat.le_of_ble_eq_true rfl)⟩) (xPV hK hM.1 rfl hM) rfl rfl hl.1 rfl (lv_room (Nat.le_of_ble_eq_true rfl)) dL_law_482 ⟨by show 40 + 10 * i + 3 + 0 ≤ 601024; omega, by show 70000 + 1200 * i + 18 + 0 ≤ 7293034; omega⟩) hS (fun q _ h => hMA q h) (fun q h => hMA q h) (fun y σ2 H locs hM2 ht hne heq z8 q8 hS => ?_)
  have hou9 : ou < H.size := Nat.lt_of_lt_of_le hou9 z8
  refine lv_icmp_eq (tgt := 2489) hx hb dL_law_485 (by decide) (fun _ => ?_) (fun q => absurd (heq rfl).1.symm q)
  have hC2 := hP.same (fun q g1 g2 => q8 q g1 (fun h => g2.2.1 h))
  have hO := x_kept hO (q8 _ (q_lt hO) (fun h => absurd h.2 (Nat.lt_irrefl _)))
  have hp := (heq rfl).2
  refine lv_iinc (v := (nI (7 * (i + 1)))) (lv' := [(4, .int (nI (7 * (i + 1)))), (0, .ref b), (1, .ref o), (2, .ref M), (3, .ref ou)]) hx hb dL_law_2489 hl (k := 4) rfl (ni_inc7 i) (by decide) rfl (fun ls hl => ?_)
  refine lv_goto (tgt := 23) hx hb dL_law_2492 (by decide) ?_
  exact W.widen (k := 40 + 10 * (i + 1)) (n := 70000 + 1200 * (i + 1)) (by omega) (by omega) (ih _ _ _ (li_end hou9 ⟨_, hO⟩ hM2 hp hn hC2 hi (by omega)) hS (lv_sub hl [1, 2, 3, 4, 0] rfl))
set_option maxHeartbeats 4000000 in
set_option maxRecDepth 100000 in
theorem lw_c6 {p : Program} {l : Launch} {e : Env} {s : State} {m : MethodId} {below : List Frame} {meth : Method} {c : Code} {b L : Nat} {xs : Nat → Int32} {Q : State → Prop} (hx : p.tables.exec = Jvm.exec) (hb : c.code = cL_law) (hml : c.maxLocals = 8) (hown : s.vm.findClass RL = some m.cls) (hts : ∀ w ∈ wsL_law, w.before #[Value.ref b] s = true) {D : va_G} {cA : Nat → ClassId} (hK : xK D cA s) {z o M h1 ou : Nat} {ad : Nat → Nat} (hX : lK (fun q => s.heap.size ≤ q) z s) (hXs : va_X b L xs s s.heap) (hbl : b < s.heap.size) (hL : L ≤ 3584) (hst : l.stackTraces = false) (h01 : s.heap.size ≤ h1) (h1u : h1 ≤ ou) {i : Nat} (hi9 : 7 * i + 7 ≤ L) {H : Heap} {locs : List Loc} {ls : Array Slot} (hI : LI D cA s.heap.size h1 ou z o M ad i H) (hS : va_S (fun q => s.heap.size ≤ q) s.heap H locs) (hl : lv_has ls 8 [(0, .ref b), (1, .ref o), (2, .ref M), (3, .ref ou), (4, .int (nI (7 * i)))]) (ih : ∀ (H2 : Heap) (locs2 : List Loc) (ls2 : Array Slot), LI D cA s.heap.size h1 ou z o M ad (i + 1) H2 → va_S (fun q => s.heap.size ≤ q) s.heap H2 locs2 → lv_has ls2 8 [(0, .ref b), (1, .ref o), (2, .ref M), (3, .ref ou), (4, .int (nI (7 * (i + 1))))] → W p l e room_1 s m #[Value.ref b] below meth c H2 locs2 (40 + 10 * (i + 1)) (70000 + 1200 * (i + 1)) Q (F0 m 23 ls2 [])) : W p l e room_1 s m #[Value.ref b] below meth c H locs (40 + 10 * i) (70000 + 1200 * i) Q (F0 m 490 ls []) := by
  obtain ⟨hou9, ⟨o1, hO⟩, σ, nC, nL, nV, hM, hn, hC, hi, hv⟩ := hI
  have hi5 : i ≤ 511 := by omega
  refine lv_aload_n hx hb dL_law_490 rfl (lv_at hl 1 rfl) ?_
  refine lv_aload_n hx hb dL_law_491 rfl (lv_at hl 0 rfl) ?_
  refine lv_iload hx hb dL_law_492 (lv_at hl 4 rfl) ?_
  refine lv_iconst (v := 1) hx hb dL_law_494 (by decide) ?_
  refine xe_iadd hx hb (nI_add (7 * i) 1) dL_law_495 ?_
  refine va_sld hx hb hXs hbl (Nat.not_le.mpr hbl) hS (vp_in_nI (show 7 * i + 1 < L by omega) (by omega)) dL_law_496 ?_
  rw [nI_clamp (show 7 * i + 1 < 2 ^ 31 by omega)]
  refine lv_aload_n hx hb dL_law_497 rfl (lv_at hl 3 rfl) ?_
  have hou8 : ¬ aC s.heap.size h1 ou ou := fun h => h.2.2 rfl
  have hAn : ∀ q, H.size ≤ q → aC s.heap.size h1 ou q := fun q h => ⟨by have := hS.1; omega, by omega, by omega⟩
  have hBA : ∀ q, (aC s.heap.size h1 ou q ∨ q = ou) → s.heap.size ≤ q := fun q h => h.elim (fun h => h.1) (fun e => by omega)
  refine xl_lcall (vx_runSW (As := [.ref o, .int (xs (7 * i + 1)), .ref ou]) (rest := []) ⟨hx, hb, hml, hown, hts⟩ (c_L_layerAt l hst D cA (aC s.heap.size h1 ou) z o ou σ.2.1 nC nL nV hi H (xs (7 * i + 1)) hou8 hAn) (vx_cwSW 3 hts gL_law_L_layerAt rfl rfl rfl (by decide +kernel) ⟨(Nat.le_of_ble_eq_true rfl), (Nat.le_of_ble_eq_true rfl)⟩) (xPXS hK lK.blind (fun U hU hW => hX.at hS hBA hU hW) ⟨rfl, hC, _, hO⟩) rfl rfl hl.1 rfl (lv_room (Nat.le_of_ble_eq_true rfl)) dL_law_498 ⟨by show 40 + 10 * i + 3 ≤ 601024; omega, by show 70000 + 1200 * i + 18 ≤ 7293034; omega⟩) hS (fun q _ h => hBA q h) (fun q h => hBA q h) (fun H locs hJ z9 q9 hS => ?_)
  have hM := hM.keptA (fun q g1 g2 => q9 q g1 (fun h => h.elim (fun h => h.2.1 g2) (fun e => by have := g2.2; omega)))
  have hou9 : ou < H.size := Nat.lt_of_lt_of_le hou9 z9
  refine lv_istore (lv' := [(5, .int (kLA nL (xs (7 * i + 1)))), (0, .ref b), (1, .ref o), (2, .ref M), (3, .ref ou), (4, .int (nI (7 * i)))]) hx hb dL_law_501 hl (by decide) rfl (fun ls hl => ?_)
  refine lv_aload_n hx hb dL_law_503 rfl (lv_at hl 3 rfl) ?_
  refine lv_aload_n hx hb dL_law_504 rfl (lv_at hl 1 rfl) ?_
  refine lv_iload hx hb dL_law_505 (lv_at hl 5 rfl) ?_
  refine lv_iconst (v := 1) hx hb dL_law_507 (by decide) ?_
  refine xe_iadd hx hb (nI_add (7 * i) 1) dL_law_508 ?_
  refine va_sld hx hb hXs hbl (Nat.not_le.mpr hbl) hS (vp_in_nI (show 7 * i + 1 < L by omega) (by omega)) dL_law_509 ?_
  rw [nI_clamp (show 7 * i + 1 < 2 ^ 31 by omega)]
  have hMA : ∀ q, aM h1 ou q → s.heap.size ≤ q := fun q h => Nat.le_trans h01 h.1
  refine xl_mint (va_runV (As := [.int (xs (7 * i + 1))]) (rest := []) ⟨hx, hb, hml, hown, hts⟩ (c_X7_layerAt l D cA (aM h1 ou) M ad σ (xs (7 * i + 1)) nL hn.2.1 hi.2.1) (cwV 1 hts gL_law_X7_layerAt rfl rfl rfl (by decide +kernel) ⟨(Nat.le_of_ble_eq_true rfl), (Nat.le_of_ble_eq_true rfl)⟩) (xPV hK hM.1 rfl hM) rfl rfl hl.1 rfl (lv_room (Nat.le_of_ble_eq_true rfl)) dL_law_510 ⟨by show 40 + 10 * i + 3 + 0 ≤ 601024; omega, by show 70000 + 1200 * i + 18 + 0 ≤ 7293034; omega⟩) hS (fun q _ h => hMA q h) (fun q h => hMA q h) (fun y σ2 H locs hM2 ht hne heq z8 q8 hS => ?_)
  have hou9 : ou < H.size := Nat.lt_of_lt_of_le hou9 z8
  refine lv_istore (lv' := [(6, .int y), (5, .int (kLA nL (xs (7 * i + 1)))), (0, .ref b), (1, .ref o), (2, .ref M), (3, .ref ou), (4, .int (nI (7 * i)))]) hx hb dL_law_513 hl (by decide) rfl (fun ls hl => ?_)
  refine lv_aload_n hx hb dL_law_515 rfl (lv_at hl 4 rfl) ?_
  refine xr_call (va_runV (As := []) (rest := []) ⟨hx, hb, hml, hown, hts⟩ (c_X7_thrown l D cA (aM h1 ou) M ad σ2) (cwV 0 hts gL_law_X7_thrown rfl rfl rfl (by decide +kernel) ⟨(Nat.le_of_ble_eq_true rfl), (Nat.le_of_ble_eq_true rfl)⟩) (xPV hK hM2.1 rfl hM2) rfl rfl hl.1 rfl (lv_room (Nat.le_of_ble_eq_true rfl)) dL_law_516 ⟨by show 40 + 10 * i + 3 + 0 + 0 ≤ 601024; omega, by show 70000 + 1200 * i + 18 + 0 + 0 ≤ 7293034; omega⟩) ?_
  refine xe_top (y := (kLA nL (xs (7 * i + 1)))) (show σ2.1 25 = (kLA nL (xs (7 * i + 1))) from ht) ?_
  refine lv_iload hx hb dL_law_519 (lv_at hl 1 rfl) ?_
  refine lv_icmp_eq (tgt := 526) hx hb dL_law_521 (by decide) (fun _ => ?_) (fun q => absurd rfl q)
  rcases hJ with ⟨hk, hP, hO⟩ | ⟨hk, hP, o2, hO⟩
  · have hC2 := hP.same (fun q g1 g2 => q8 q g1 (fun h => g2.2.1 h))
    have hO := x_kept hO (q8 _ (q_lt hO) (fun h => absurd h.2 (Nat.lt_irrefl _)))
    obtain ⟨hy, hp⟩ := heq hk
    refine lv_iload hx hb dL_law_526 (lv_at hl 1 rfl) ?_
    refine lv_if_ne (tgt := 543) hx hb dL_law_528 (by decide) (fun q => absurd hk q) (fun _ => ?_)
    refine lv_aload_n hx hb dL_law_531 rfl (lv_at hl 5 rfl) ?_
    refine lv_iconst (v := 0) hx hb dL_law_532 (by decide) ?_
    refine x_lald hx hb hK hO 0 rfl (by omega) (by decide) dL_law_533 ?_
    refine lv_iload hx hb dL_law_534 (lv_at hl 0 rfl) ?_
    refine lv_i2l hx hb dL_law_536 rfl ?_
    refine xe_lcmp hx hb dL_law_537 (fun v9 hv9 => ?_)
    refine lv_if_eq (tgt := 543) hx hb dL_law_538 (by decide) (fun _ => ?_) (fun q => absurd (hv9.mpr (show ((lyAt (σ.2.1 3) nL (xs (7 * i + 1))).toInt64) = (y).toInt64 from by subst hy; rfl)) q)
    refine lv_goto (tgt := 2489) hx hb dL_law_543 (by decide) ?_
    refine lv_iinc (v := (nI (7 * (i + 1)))) (lv' := [(4, .int (nI (7 * (i + 1)))), (6, .int y), (5, .int (kLA nL (xs (7 * i + 1)))), (0, .ref b), (1, .ref o), (2, .ref M), (3, .ref ou)]) hx hb dL_law_2489 hl (k := 6) rfl (ni_inc7 i) (by decide) rfl (fun ls hl => ?_)
    refine lv_goto (tgt := 23) hx hb dL_law_2492 (by decide) ?_
    exact W.widen (k := 40 + 10 * (i + 1)) (n := 70000 + 1200 * (i + 1)) (by omega) (by omega) (ih _ _ _ (li_end hou9 ⟨_, hO⟩ hM2 hp hn hC2 hi (by omega)) hS (lv_sub hl [3, 4, 5, 6, 0] rfl))
  · have hC2 := hP.same (fun q g1 g2 => q8 q g1 (fun h => g2.2.1 h))
    have hO := x_kept hO (q8 _ (q_lt hO) (fun h => absurd h.2 (Nat.lt_irrefl _)))
    have hp := hne hk
    refine lv_iload hx hb dL_law_526 (lv_at hl 1 rfl) ?_
    refine lv_if_ne (tgt := 543) hx hb dL_law_528 (by decide) (fun _ => ?_) (fun q => absurd q hk)
    refine lv_goto (tgt := 2489) hx hb dL_law_543 (by decide) ?_
    refine lv_iinc (v := (nI (7 * (i + 1)))) (lv' := [(4, .int (nI (7 * (i + 1)))), (6, .int y), (5, .int (kLA nL (xs (7 * i + 1)))), (0, .ref b), (1, .ref o), (2, .ref M), (3, .ref ou)]) hx hb dL_law_2489 hl (k := 6) rfl (ni_inc7 i) (by decide) rfl (fun ls hl => ?_)
    refine lv_goto (tgt := 23) hx hb dL_law_2492 (by decide) ?_
    exact W.widen (k := 40 + 10 * (i + 1)) (n := 70000 + 1200 * (i + 1)) (by omega) (by omega) (ih _ _ _ (li_end hou9 ⟨_, hO⟩ hM2 hp hn hC2 hi (by omega)) hS (lv_sub hl [3, 4, 5, 6, 0] rfl))
set_option maxHeartbeats 4000000 in
set_option maxRecDepth 100000 in
theorem lw_c7 {p : Program} {l : Launch} {e : Env} {s : State} {m : MethodId} {below : List Frame} {meth : Method} {c : Code} {b L : Nat} {xs : Nat → Int32} {Q : State → Prop} (hx : p.tables.exec = Jvm.exec) (hb : c.code = cL_law) (hml : c.maxLocals = 8) (hown : s.vm.findClass RL = some m.cls) (hts : ∀ w ∈ wsL_law, w.before #[Value.ref b] s = true) {D : va_G} {cA : Nat → ClassId} (hK : xK D cA s) {z o M h1 ou : Nat} {ad : Nat → Nat} (hX : lK (fun q => s.heap.size ≤ q) z s) (hXs : va_X b L xs s s.heap) (hbl : b < s.heap.size) (hL : L ≤ 3584) (hst : l.stackTraces = false) (h01 : s.heap.size ≤ h1) (h1u : h1 ≤ ou) {i : Nat} (hi9 : 7 * i + 7 ≤ L) {H : Heap} {locs : List Loc} {ls : Array Slot} (hI : LI D cA s.heap.size h1 ou z o M ad i H) (hS : va_S (fun q => s.heap.size ≤ q) s.heap H locs) (hl : lv_has ls 8 [(0, .ref b), (1, .ref o), (2, .ref M), (3, .ref ou), (4, .int (nI (7 * i)))]) (ih : ∀ (H2 : Heap) (locs2 : List Loc) (ls2 : Array Slot), LI D cA s.heap.size h1 ou z o M ad (i + 1) H2 → va_S (fun q => s.heap.size ≤ q) s.heap H2 locs2 → lv_has ls2 8 [(0, .ref b), (1, .ref o), (2, .ref M), (3, .ref ou), (4, .int (nI (7 * (i + 1))))] → W p l e room_1 s m #[Value.ref b] below meth c H2 locs2 (40 + 10 * (i + 1)) (70000 + 1200 * (i + 1)) Q (F0 m 23 ls2 [])) : W p l e room_1 s m #[Value.ref b] below meth c H locs (40 + 10 * i) (70000 + 1200 * i) Q (F0 m 546 ls []) := by
  obtain ⟨hou9, ⟨o1, hO⟩, σ, nC, nL, nV, hM, hn, hC, hi, hv⟩ := hI
  have hi5 : i ≤ 511 := by omega
  refine lv_aload_n hx hb dL_law_546 rfl (lv_at hl 1 rfl) ?_
  refine lv_aload_n hx hb dL_law_547 rfl (lv_at hl 0 rfl) ?_
  refine lv_iload hx hb dL_law_548 (lv_at hl 4 rfl) ?_
  refine lv_iconst (v := 1) hx hb dL_law_550 (by decide) ?_
  refine xe_iadd hx hb (nI_add (7 * i) 1) dL_law_551 ?_
  refine va_sld hx hb hXs hbl (Nat.not_le.mpr hbl) hS (vp_in_nI (show 7 * i + 1 < L by omega) (by omega)) dL_law_552 ?_
  rw [nI_clamp (show 7 * i + 1 < 2 ^ 31 by omega)]
  refine lv_aload_n hx hb dL_law_553 rfl (lv_at hl 0 rfl) ?_
  refine lv_iload hx hb dL_law_554 (lv_at hl 4 rfl) ?_
  refine lv_iconst (v := 2) hx hb dL_law_556 (by decide) ?_
  refine xe_iadd hx hb (nI_add (7 * i) 2) dL_law_557 ?_
  refine va_sld hx hb hXs hbl (Nat.not_le.mpr hbl) hS (vp_in_nI (show 7 * i + 2 < L by omega) (by omega)) dL_law_558 ?_
  rw [nI_clamp (show 7 * i + 2 < 2 ^ 31 by omega)]
  refine lv_aload_n hx hb dL_law_559 rfl (lv_at hl 3 rfl) ?_
  have hou8 : ¬ aC s.heap.size h1 ou ou := fun h => h.2.2 rfl
  have hAn : ∀ q, H.size ≤ q → aC s.heap.size h1 ou q := fun q h => ⟨by have := hS.1; omega, by omega, by omega⟩
  have hBA : ∀ q, (aC s.heap.size h1 ou q ∨ q = ou) → s.heap.size ≤ q := fun q h => h.elim (fun h => h.1) (fun e => by omega)
  refine xl_lcall (vx_runSW (As := [.ref o, .int (xs (7 * i + 1)), .int (xs (7 * i + 2)), .ref ou]) (rest := []) ⟨hx, hb, hml, hown, hts⟩ (c_L_applies l hst D cA (aC s.heap.size h1 ou) z o ou σ.2.1 nC nL nV hi H (xs (7 * i + 1)) (xs (7 * i + 2)) hou8 hAn) (vx_cwSW 4 hts gL_law_L_applies rfl rfl rfl (by decide +kernel) ⟨(Nat.le_of_ble_eq_true rfl), (Nat.le_of_ble_eq_true rfl)⟩) (xPXS hK lK.blind (fun U hU hW => hX.at hS hBA hU hW) ⟨rfl, hC, _, hO⟩) rfl rfl hl.1 rfl (lv_room (Nat.le_of_ble_eq_true rfl)) dL_law_560 ⟨by show 40 + 10 * i + 3 ≤ 601024; omega, by show 70000 + 1200 * i + 18 ≤ 7293034; omega⟩) hS (fun q _ h => hBA q h) (fun q h => hBA q h) (fun H locs hJ z9 q9 hS => ?_)
  have hM := hM.keptA (fun q g1 g2 => q9 q g1 (fun h => h.elim (fun h => h.2.1 g2) (fun e => by have := g2.2; omega)))
  have hou9 : ou < H.size := Nat.lt_of_lt_of_le hou9 z9
  refine lv_istore (lv' := [(5, .int (kAp nL nC (xs (7 * i + 1)) (xs (7 * i + 2)))), (0, .ref b), (1, .ref o), (2, .ref M), (3, .ref ou), (4, .int (nI (7 * i)))]) hx hb dL_law_563 hl (by decide) rfl (fun ls hl => ?_)
  refine lv_aload_n hx hb dL_law_565 rfl (lv_at hl 3 rfl) ?_
  refine lv_aload_n hx hb dL_law_566 rfl (lv_at hl 1 rfl) ?_
  refine lv_iload hx hb dL_law_567 (lv_at hl 5 rfl) ?_
  refine lv_iconst (v := 1) hx hb dL_law_569 (by decide) ?_
  refine xe_iadd hx hb (nI_add (7 * i) 1) dL_law_570 ?_
  refine va_sld hx hb hXs hbl (Nat.not_le.mpr hbl) hS (vp_in_nI (show 7 * i + 1 < L by omega) (by omega)) dL_law_571 ?_
  rw [nI_clamp (show 7 * i + 1 < 2 ^ 31 by omega)]
  refine lv_aload_n hx hb dL_law_572 rfl (lv_at hl 1 rfl) ?_
  refine lv_iload hx hb dL_law_573 (lv_at hl 5 rfl) ?_
  refine lv_iconst (v := 2) hx hb dL_law_575 (by decide) ?_
  refine xe_iadd hx hb (nI_add (7 * i) 2) dL_law_576 ?_
  refine va_sld hx hb hXs hbl (Nat.not_le.mpr hbl) hS (vp_in_nI (show 7 * i + 2 < L by omega) (by omega)) dL_law_577 ?_
  rw [nI_clamp (show 7 * i + 2 < 2 ^ 31 by omega)]
  have hMA : ∀ q, aM h1 ou q → s.heap.size ≤ q := fun q h => Nat.le_trans h01 h.1
  refine xl_mint (va_runV (As := [.int (xs (7 * i + 1)), .int (xs (7 * i + 2))]) (rest := []) ⟨hx, hb, hml, hown, hts⟩ (c_X7_applies l D cA (aM h1 ou) M ad σ (xs (7 * i + 1)) (xs (7 * i + 2)) nL hn.2.1 hi.2.1 nC hn.1 hi.1) (cwV 2 hts gL_law_X7_applies rfl rfl rfl (by decide +kernel) ⟨(Nat.le_of_ble_eq_true rfl), (Nat.le_of_ble_eq_true rfl)⟩) (xPV hK hM.1 rfl hM) rfl rfl hl.1 rfl (lv_room (Nat.le_of_ble_eq_true rfl)) dL_law_578 ⟨by show 40 + 10 * i + 3 + 0 ≤ 601024; omega, by show 70000 + 1200 * i + 18 + 0 ≤ 7293034; omega⟩) hS (fun q _ h => hMA q h) (fun q h => hMA q h) (fun y σ2 H locs hM2 ht hne heq z8 q8 hS => ?_)
  have hou9 : ou < H.size := Nat.lt_of_lt_of_le hou9 z8
  refine lv_istore (lv' := [(6, .int y), (5, .int (kAp nL nC (xs (7 * i + 1)) (xs (7 * i + 2)))), (0, .ref b), (1, .ref o), (2, .ref M), (3, .ref ou), (4, .int (nI (7 * i)))]) hx hb dL_law_581 hl (by decide) rfl (fun ls hl => ?_)
  refine lv_aload_n hx hb dL_law_583 rfl (lv_at hl 4 rfl) ?_
  refine xr_call (va_runV (As := []) (rest := []) ⟨hx, hb, hml, hown, hts⟩ (c_X7_thrown l D cA (aM h1 ou) M ad σ2) (cwV 0 hts gL_law_X7_thrown rfl rfl rfl (by decide +kernel) ⟨(Nat.le_of_ble_eq_true rfl), (Nat.le_of_ble_eq_true rfl)⟩) (xPV hK hM2.1 rfl hM2) rfl rfl hl.1 rfl (lv_room (Nat.le_of_ble_eq_true rfl)) dL_law_584 ⟨by show 40 + 10 * i + 3 + 0 + 0 ≤ 601024; omega, by show 70000 + 1200 * i + 18 + 0 + 0 ≤ 7293034; omega⟩) ?_
  refine xe_top (y := (kAp nL nC (xs (7 * i + 1)) (xs (7 * i + 2)))) (show σ2.1 25 = (kAp nL nC (xs (7 * i + 1)) (xs (7 * i + 2))) from ht) ?_
  refine lv_iload hx hb dL_law_587 (lv_at hl 1 rfl) ?_
  refine lv_icmp_eq (tgt := 594) hx hb dL_law_589 (by decide) (fun _ => ?_) (fun q => absurd rfl q)
  rcases hJ with ⟨hk, hP, hO⟩ | ⟨hk, hP, o2, hO⟩
  · have hC2 := hP.same (fun q g1 g2 => q8 q g1 (fun h => g2.2.1 h))
    have hO := x_kept hO (q8 _ (q_lt hO) (fun h => absurd h.2 (Nat.lt_irrefl _)))
    obtain ⟨hy, hp⟩ := heq hk
    refine lv_iload hx hb dL_law_594 (lv_at hl 1 rfl) ?_
    refine lv_if_ne (tgt := 618) hx hb dL_law_596 (by decide) (fun q => absurd hk q) (fun _ => ?_)
    refine lv_aload_n hx hb dL_law_599 rfl (lv_at hl 5 rfl) ?_
    refine lv_iconst (v := 0) hx hb dL_law_600 (by decide) ?_
    refine x_lald hx hb hK hO 0 rfl (by omega) (by decide) dL_law_601 ?_
    refine lv_iload hx hb dL_law_602 (lv_at hl 0 rfl) ?_
    refine xe_top (y := bI (forF σ.2.1 (ix (xs (7 * i + 1))) (ix (xs (7 * i + 2))))) hy ?_
    refine xb_eq (tgt := 611) hx hb dL_law_604 (by decide) (fun hbc => ?_) (fun hbc => ?_)
    · refine lv_lconst (v := 0) hx hb dL_law_611 (by decide) ?_
      refine xe_lcmp hx hb dL_law_612 (fun v9 hv9 => ?_)
      refine lv_if_eq (tgt := 618) hx hb dL_law_613 (by decide) (fun _ => ?_) (fun q => absurd (hv9.mpr (show bL (forF σ.2.1 (ix (xs (7 * i + 1))) (ix (xs (7 * i + 2)))) = 0 from by unfold bL; rw [hbc]; rfl)) q)
      refine lv_goto (tgt := 2489) hx hb dL_law_618 (by decide) ?_
      refine lv_iinc (v := (nI (7 * (i + 1)))) (lv' := [(4, .int (nI (7 * (i + 1)))), (6, .int y), (5, .int (kAp nL nC (xs (7 * i + 1)) (xs (7 * i + 2)))), (0, .ref b), (1, .ref o), (2, .ref M), (3, .ref ou)]) hx hb dL_law_2489 hl (k := 6) rfl (ni_inc7 i) (by decide) rfl (fun ls hl => ?_)
      refine lv_goto (tgt := 23) hx hb dL_law_2492 (by decide) ?_
      exact W.widen (k := 40 + 10 * (i + 1)) (n := 70000 + 1200 * (i + 1)) (by omega) (by omega) (ih _ _ _ (li_end hou9 ⟨_, hO⟩ hM2 hp hn hC2 hi (by omega)) hS (lv_sub hl [3, 4, 5, 6, 0] rfl))
    · refine lv_lconst (v := 1) hx hb dL_law_607 (by decide) ?_
      refine lv_goto (tgt := 612) hx hb dL_law_608 (by decide) ?_
      refine xe_lcmp hx hb dL_law_612 (fun v9 hv9 => ?_)
      refine lv_if_eq (tgt := 618) hx hb dL_law_613 (by decide) (fun _ => ?_) (fun q => absurd (hv9.mpr (show bL (forF σ.2.1 (ix (xs (7 * i + 1))) (ix (xs (7 * i + 2)))) = 1 from by unfold bL; rw [hbc]; rfl)) q)
      refine lv_goto (tgt := 2489) hx hb dL_law_618 (by decide) ?_
      refine lv_iinc (v := (nI (7 * (i + 1)))) (lv' := [(4, .int (nI (7 * (i + 1)))), (6, .int y), (5, .int (kAp nL nC (xs (7 * i + 1)) (xs (7 * i + 2)))), (0, .ref b), (1, .ref o), (2, .ref M), (3, .ref ou)]) hx hb dL_law_2489 hl (k := 6) rfl (ni_inc7 i) (by decide) rfl (fun ls hl => ?_)
      refine lv_goto (tgt := 23) hx hb dL_law_2492 (by decide) ?_
      exact W.widen (k := 40 + 10 * (i + 1)) (n := 70000 + 1200 * (i + 1)) (by omega) (by omega) (ih _ _ _ (li_end hou9 ⟨_, hO⟩ hM2 hp hn hC2 hi (by omega)) hS (lv_sub hl [3, 4, 5, 6, 0] rfl))
  · have hC2 := hP.same (fun q g1 g2 => q8 q g1 (fun h => g2.2.1 h))
    have hO := x_kept hO (q8 _ (q_lt hO) (fun h => absurd h.2 (Nat.lt_irrefl _)))
    have hp := hne hk
    refine lv_iload hx hb dL_law_594 (lv_at hl 1 rfl) ?_
    refine lv_if_ne (tgt := 618) hx hb dL_law_596 (by decide) (fun _ => ?_) (fun q => absurd q hk)
    refine lv_goto (tgt := 2489) hx hb dL_law_618 (by decide) ?_
    refine lv_iinc (v := (nI (7 * (i + 1)))) (lv' := [(4, .int (nI (7 * (i + 1)))), (6, .int y), (5, .int (kAp nL nC (xs (7 * i + 1)) (xs (7 * i + 2)))), (0, .ref b), (1, .ref o), (2, .ref M), (3, .ref ou)]) hx hb dL_law_2489 hl (k := 6) rfl (ni_inc7 i) (by decide) rfl (fun ls hl => ?_)
    refine lv_goto (tgt := 23) hx hb dL_law_2492 (by decide) ?_
    exact W.widen (k := 40 + 10 * (i + 1)) (n := 70000 + 1200 * (i + 1)) (by omega) (by omega) (ih _ _ _ (li_end hou9 ⟨_, hO⟩ hM2 hp hn hC2 hi (by omega)) hS (lv_sub hl [3, 4, 5, 6, 0] rfl))
set_option maxHeartbeats 4000000 in
set_option maxRecDepth 100000 in
theorem lw_c8 {p : Program} {l : Launch} {e : Env} {s : State} {m : MethodId} {below : List Frame} {meth : Method} {c : Code} {b L : Nat} {xs : Nat → Int32} {Q : State → Prop} (hx : p.tables.exec = Jvm.exec) (hb : c.code = cL_law) (hml : c.maxLocals = 8) (hown : s.vm.findClass RL = some m.cls) (hts : ∀ w ∈ wsL_law, w.before #[Value.ref b] s = true) {D : va_G} {cA : Nat → ClassId} (hK : xK D cA s) {z o M h1 ou : Nat} {ad : Nat → Nat} (hX : lK (fun q => s.heap.size ≤ q) z s) (hXs : va_X b L xs s s.heap) (hbl : b < s.heap.size) (hL : L ≤ 3584) (hst : l.stackTraces = false) (h01 : s.heap.size ≤ h1) (h1u : h1 ≤ ou) {i : Nat} (hi9 : 7 * i + 7 ≤ L) {H : Heap} {locs : List Loc} {ls : Array Slot} (hI : LI D cA s.heap.size h1 ou z o M ad i H) (hS : va_S (fun q => s.heap.size ≤ q) s.heap H locs) (hl : lv_has ls 8 [(0, .ref b), (1, .ref o), (2, .ref M), (3, .ref ou), (4, .int (nI (7 * i)))]) (ih : ∀ (H2 : Heap) (locs2 : List Loc) (ls2 : Array Slot), LI D cA s.heap.size h1 ou z o M ad (i + 1) H2 → va_S (fun q => s.heap.size ≤ q) s.heap H2 locs2 → lv_has ls2 8 [(0, .ref b), (1, .ref o), (2, .ref M), (3, .ref ou), (4, .int (nI (7 * (i + 1))))] → W p l e room_1 s m #[Value.ref b] below meth c H2 locs2 (40 + 10 * (i + 1)) (70000 + 1200 * (i + 1)) Q (F0 m 23 ls2 [])) : W p l e room_1 s m #[Value.ref b] below meth c H locs (40 + 10 * i) (70000 + 1200 * i) Q (F0 m 621 ls []) := by
  obtain ⟨hou9, ⟨o1, hO⟩, σ, nC, nL, nV, hM, hn, hC, hi, hv⟩ := hI
  have hi5 : i ≤ 511 := by omega
  refine lv_aload_n hx hb dL_law_621 rfl (lv_at hl 1 rfl) ?_
  refine lv_aload_n hx hb dL_law_622 rfl (lv_at hl 0 rfl) ?_
  refine lv_iload hx hb dL_law_623 (lv_at hl 4 rfl) ?_
  refine lv_iconst (v := 1) hx hb dL_law_625 (by decide) ?_
  refine xe_iadd hx hb (nI_add (7 * i) 1) dL_law_626 ?_
  refine va_sld hx hb hXs hbl (Nat.not_le.mpr hbl) hS (vp_in_nI (show 7 * i + 1 < L by omega) (by omega)) dL_law_627 ?_
  rw [nI_clamp (show 7 * i + 1 < 2 ^ 31 by omega)]
  refine lv_aload_n hx hb dL_law_628 rfl (lv_at hl 0 rfl) ?_
  refine lv_iload hx hb dL_law_629 (lv_at hl 4 rfl) ?_
  refine lv_iconst (v := 2) hx hb dL_law_631 (by decide) ?_
  refine xe_iadd hx hb (nI_add (7 * i) 2) dL_law_632 ?_
  refine va_sld hx hb hXs hbl (Nat.not_le.mpr hbl) hS (vp_in_nI (show 7 * i + 2 < L by omega) (by omega)) dL_law_633 ?_
  rw [nI_clamp (show 7 * i + 2 < 2 ^ 31 by omega)]
  refine lv_aload_n hx hb dL_law_634 rfl (lv_at hl 0 rfl) ?_
  refine lv_iload hx hb dL_law_635 (lv_at hl 4 rfl) ?_
  refine lv_iconst (v := 3) hx hb dL_law_637 (by decide) ?_
  refine xe_iadd hx hb (nI_add (7 * i) 3) dL_law_638 ?_
  refine va_sld hx hb hXs hbl (Nat.not_le.mpr hbl) hS (vp_in_nI (show 7 * i + 3 < L by omega) (by omega)) dL_law_639 ?_
  rw [nI_clamp (show 7 * i + 3 < 2 ^ 31 by omega)]
  refine lv_aload_n hx hb dL_law_640 rfl (lv_at hl 0 rfl) ?_
  refine lv_iload hx hb dL_law_641 (lv_at hl 4 rfl) ?_
  refine lv_iconst (v := 4) hx hb dL_law_643 (by decide) ?_
  refine xe_iadd hx hb (nI_add (7 * i) 4) dL_law_644 ?_
  refine va_sld hx hb hXs hbl (Nat.not_le.mpr hbl) hS (vp_in_nI (show 7 * i + 4 < L by omega) (by omega)) dL_law_645 ?_
  rw [nI_clamp (show 7 * i + 4 < 2 ^ 31 by omega)]
  refine lv_aload_n hx hb dL_law_646 rfl (lv_at hl 3 rfl) ?_
  have hou8 : ¬ aC s.heap.size h1 ou ou := fun h => h.2.2 rfl
  have hAn : ∀ q, H.size ≤ q → aC s.heap.size h1 ou q := fun q h => ⟨by have := hS.1; omega, by omega, by omega⟩
  have hBA : ∀ q, (aC s.heap.size h1 ou q ∨ q = ou) → s.heap.size ≤ q := fun q h => h.elim (fun h => h.1) (fun e => by omega)
  refine xl_lcall (vx_runSW (As := [.ref o, .int (xs (7 * i + 1)), .int (xs (7 * i + 2)), .int (xs (7 * i + 3)), .int (xs (7 * i + 4)), .ref ou]) (rest := []) ⟨hx, hb, hml, hown, hts⟩ (c_L_set l hst D cA (aC s.heap.size h1 ou) z o ou σ.2.1 nC nL nV hi H (xs (7 * i + 1)) (xs (7 * i + 2)) (xs (7 * i + 3)) (xs (7 * i + 4)) hou8 hAn) (vx_cwSW 6 hts gL_law_L_set rfl rfl rfl (by decide +kernel) ⟨(Nat.le_of_ble_eq_true rfl), (Nat.le_of_ble_eq_true rfl)⟩) (xPXS hK lK.blind (fun U hU hW => hX.at hS hBA hU hW) ⟨rfl, hC, _, hO⟩) rfl rfl hl.1 rfl (lv_room (Nat.le_of_ble_eq_true rfl)) dL_law_647 ⟨by show 40 + 10 * i + 8 ≤ 601024; omega, by show 70000 + 1200 * i + 1160 ≤ 7293034; omega⟩) hS (fun q _ h => hBA q h) (fun q h => hBA q h) (fun H locs hJ z9 q9 hS => ?_)
  have hM := hM.keptA (fun q g1 g2 => q9 q g1 (fun h => h.elim (fun h => h.2.1 g2) (fun e => by have := g2.2; omega)))
  have hou9 : ou < H.size := Nat.lt_of_lt_of_le hou9 z9
  refine lv_istore (lv' := [(5, .int (wrF (mS σ.2.1) nL (xs (7 * i + 1)) (xs (7 * i + 2)) (okB (xs (7 * i + 3))) (xs (7 * i + 4)) false)), (0, .ref b), (1, .ref o), (2, .ref M), (3, .ref ou), (4, .int (nI (7 * i)))]) hx hb dL_law_650 hl (by decide) rfl (fun ls hl => ?_)
  refine lv_aload_n hx hb dL_law_652 rfl (lv_at hl 3 rfl) ?_
  refine lv_aload_n hx hb dL_law_653 rfl (lv_at hl 1 rfl) ?_
  refine lv_iload hx hb dL_law_654 (lv_at hl 5 rfl) ?_
  refine lv_iconst (v := 1) hx hb dL_law_656 (by decide) ?_
  refine xe_iadd hx hb (nI_add (7 * i) 1) dL_law_657 ?_
  refine va_sld hx hb hXs hbl (Nat.not_le.mpr hbl) hS (vp_in_nI (show 7 * i + 1 < L by omega) (by omega)) dL_law_658 ?_
  rw [nI_clamp (show 7 * i + 1 < 2 ^ 31 by omega)]
  refine lv_aload_n hx hb dL_law_659 rfl (lv_at hl 1 rfl) ?_
  refine lv_iload hx hb dL_law_660 (lv_at hl 5 rfl) ?_
  refine lv_iconst (v := 2) hx hb dL_law_662 (by decide) ?_
  refine xe_iadd hx hb (nI_add (7 * i) 2) dL_law_663 ?_
  refine va_sld hx hb hXs hbl (Nat.not_le.mpr hbl) hS (vp_in_nI (show 7 * i + 2 < L by omega) (by omega)) dL_law_664 ?_
  rw [nI_clamp (show 7 * i + 2 < 2 ^ 31 by omega)]
  refine lv_aload_n hx hb dL_law_665 rfl (lv_at hl 1 rfl) ?_
  refine lv_iload hx hb dL_law_666 (lv_at hl 5 rfl) ?_
  refine lv_iconst (v := 3) hx hb dL_law_668 (by decide) ?_
  refine xe_iadd hx hb (nI_add (7 * i) 3) dL_law_669 ?_
  refine va_sld hx hb hXs hbl (Nat.not_le.mpr hbl) hS (vp_in_nI (show 7 * i + 3 < L by omega) (by omega)) dL_law_670 ?_
  rw [nI_clamp (show 7 * i + 3 < 2 ^ 31 by omega)]
  refine lv_aload_n hx hb dL_law_671 rfl (lv_at hl 1 rfl) ?_
  refine lv_iload hx hb dL_law_672 (lv_at hl 5 rfl) ?_
  refine lv_iconst (v := 4) hx hb dL_law_674 (by decide) ?_
  refine xe_iadd hx hb (nI_add (7 * i) 4) dL_law_675 ?_
  refine va_sld hx hb hXs hbl (Nat.not_le.mpr hbl) hS (vp_in_nI (show 7 * i + 4 < L by omega) (by omega)) dL_law_676 ?_
  rw [nI_clamp (show 7 * i + 4 < 2 ^ 31 by omega)]
  have hMA : ∀ q, aM h1 ou q → s.heap.size ≤ q := fun q h => Nat.le_trans h01 h.1
  refine xl_mint (va_runV (As := [.int (xs (7 * i + 1)), .int (xs (7 * i + 2)), .int (xs (7 * i + 3)), .int (xs (7 * i + 4))]) (rest := []) ⟨hx, hb, hml, hown, hts⟩ (c_X7_set l D cA (aM h1 ou) M ad σ (xs (7 * i + 1)) (xs (7 * i + 2)) (xs (7 * i + 3)) (xs (7 * i + 4)) nL hn.2.1 hi.2.1 nV hn.2.2 (by omega)) (cwV 4 hts gL_law_X7_set rfl rfl rfl (by decide +kernel) ⟨(Nat.le_of_ble_eq_true rfl), (Nat.le_of_ble_eq_true rfl)⟩) (xPV hK hM.1 rfl hM) rfl rfl hl.1 rfl (lv_room (Nat.le_of_ble_eq_true rfl)) dL_law_677 ⟨by show 40 + 10 * i + 8 + 0 ≤ 601024; omega, by show 70000 + 1200 * i + 1160 + 0 ≤ 7293034; omega⟩) hS (fun q _ h => hMA q h) (fun q h => hMA q h) (fun y σ2 H locs hM2 ht hne heq z8 q8 hS => ?_)
  have hou9 : ou < H.size := Nat.lt_of_lt_of_le hou9 z8
  refine lv_istore (lv' := [(6, .int y), (5, .int (wrF (mS σ.2.1) nL (xs (7 * i + 1)) (xs (7 * i + 2)) (okB (xs (7 * i + 3))) (xs (7 * i + 4)) false)), (0, .ref b), (1, .ref o), (2, .ref M), (3, .ref ou), (4, .int (nI (7 * i)))]) hx hb dL_law_680 hl (by decide) rfl (fun ls hl => ?_)
  refine lv_aload_n hx hb dL_law_682 rfl (lv_at hl 4 rfl) ?_
  refine xr_call (va_runV (As := []) (rest := []) ⟨hx, hb, hml, hown, hts⟩ (c_X7_thrown l D cA (aM h1 ou) M ad σ2) (cwV 0 hts gL_law_X7_thrown rfl rfl rfl (by decide +kernel) ⟨(Nat.le_of_ble_eq_true rfl), (Nat.le_of_ble_eq_true rfl)⟩) (xPV hK hM2.1 rfl hM2) rfl rfl hl.1 rfl (lv_room (Nat.le_of_ble_eq_true rfl)) dL_law_683 ⟨by show 40 + 10 * i + 8 + 0 + 0 ≤ 601024; omega, by show 70000 + 1200 * i + 1160 + 0 + 0 ≤ 7293034; omega⟩) ?_
  refine xe_top (y := (wrF (mS σ.2.1) nL (xs (7 * i + 1)) (xs (7 * i + 2)) (okB (xs (7 * i + 3))) (xs (7 * i + 4)) false)) (show σ2.1 25 = (wrF (mS σ.2.1) nL (xs (7 * i + 1)) (xs (7 * i + 2)) (okB (xs (7 * i + 3))) (xs (7 * i + 4)) false) from ht) ?_
  refine lv_iload hx hb dL_law_686 (lv_at hl 1 rfl) ?_
  refine lv_icmp_eq (tgt := 693) hx hb dL_law_688 (by decide) (fun _ => ?_) (fun q => absurd rfl q)
  rcases hJ with ⟨hk, hP, hO⟩ | ⟨hk, hP, o2, hO⟩
  · have hC2 := hP.same (fun q g1 g2 => q8 q g1 (fun h => g2.2.1 h))
    have hO := x_kept hO (q8 _ (q_lt hO) (fun h => absurd h.2 (Nat.lt_irrefl _)))
    obtain ⟨hy, hp⟩ := heq hk
    refine lv_iload hx hb dL_law_693 (lv_at hl 1 rfl) ?_
    refine lv_if_ne (tgt := 710) hx hb dL_law_695 (by decide) (fun q => absurd hk q) (fun _ => ?_)
    refine lv_aload_n hx hb dL_law_698 rfl (lv_at hl 5 rfl) ?_
    refine lv_iconst (v := 0) hx hb dL_law_699 (by decide) ?_
    refine x_lald hx hb hK hO 0 rfl (by omega) (by decide) dL_law_700 ?_
    refine lv_iload hx hb dL_law_701 (lv_at hl 0 rfl) ?_
    refine lv_i2l hx hb dL_law_703 rfl ?_
    refine xe_lcmp hx hb dL_law_704 (fun v9 hv9 => ?_)
    refine lv_if_eq (tgt := 710) hx hb dL_law_705 (by decide) (fun _ => ?_) (fun q => absurd (hv9.mpr (show ((nI (putV (mS σ.2.1) nV (cl (xs (7 * i + 1)) (xs (7 * i + 2))) (enc (xs (7 * i + 3)) (-1) (-1)))).toInt64) = (y).toInt64 from by subst hy; rfl)) q)
    refine lv_goto (tgt := 2489) hx hb dL_law_710 (by decide) ?_
    refine lv_iinc (v := (nI (7 * (i + 1)))) (lv' := [(4, .int (nI (7 * (i + 1)))), (6, .int y), (5, .int (wrF (mS σ.2.1) nL (xs (7 * i + 1)) (xs (7 * i + 2)) (okB (xs (7 * i + 3))) (xs (7 * i + 4)) false)), (0, .ref b), (1, .ref o), (2, .ref M), (3, .ref ou)]) hx hb dL_law_2489 hl (k := 6) rfl (ni_inc7 i) (by decide) rfl (fun ls hl => ?_)
    refine lv_goto (tgt := 23) hx hb dL_law_2492 (by decide) ?_
    exact W.widen (k := 40 + 10 * (i + 1)) (n := 70000 + 1200 * (i + 1)) (by omega) (by omega) (ih _ _ _ (li_end hou9 ⟨_, hO⟩ hM2 hp (mN_put hn (cl (xs (7 * i + 1)) (xs (7 * i + 2))) (enc (xs (7 * i + 3)) (-1) (-1))) (by rw [put_ms]; exact hC2) (by rw [put_ms]; exact hi.wr (by omega) hk (fun h => gdE_enc ⟨h, Or.inl ⟨rfl, rfl⟩⟩)) (by have := putV_le σ nV (cl (xs (7 * i + 1)) (xs (7 * i + 2))) (enc (xs (7 * i + 3)) (-1) (-1)); omega)) hS (lv_sub hl [3, 4, 5, 6, 0] rfl))
  · have hC2 := hP.same (fun q g1 g2 => q8 q g1 (fun h => g2.2.1 h))
    have hO := x_kept hO (q8 _ (q_lt hO) (fun h => absurd h.2 (Nat.lt_irrefl _)))
    have hp := hne hk
    refine lv_iload hx hb dL_law_693 (lv_at hl 1 rfl) ?_
    refine lv_if_ne (tgt := 710) hx hb dL_law_695 (by decide) (fun _ => ?_) (fun q => absurd q hk)
    refine lv_goto (tgt := 2489) hx hb dL_law_710 (by decide) ?_
    refine lv_iinc (v := (nI (7 * (i + 1)))) (lv' := [(4, .int (nI (7 * (i + 1)))), (6, .int y), (5, .int (wrF (mS σ.2.1) nL (xs (7 * i + 1)) (xs (7 * i + 2)) (okB (xs (7 * i + 3))) (xs (7 * i + 4)) false)), (0, .ref b), (1, .ref o), (2, .ref M), (3, .ref ou)]) hx hb dL_law_2489 hl (k := 6) rfl (ni_inc7 i) (by decide) rfl (fun ls hl => ?_)
    refine lv_goto (tgt := 23) hx hb dL_law_2492 (by decide) ?_
    exact W.widen (k := 40 + 10 * (i + 1)) (n := 70000 + 1200 * (i + 1)) (by omega) (by omega) (ih _ _ _ (li_end hou9 ⟨_, hO⟩ hM2 hp hn hC2 hi (by omega)) hS (lv_sub hl [3, 4, 5, 6, 0] rfl))
