/-! the law's loop: its head -/
theorem mF_cong {ad ad1 : Nat → Nat} {g : Nat → Int32} (e : ∀ k, k ∈ mAA → ad1 k = ad k) : mF ad1 g = mF ad g := by
  unfold mF
  rw [e 0 (by decide), e 1 (by decide), e 3 (by decide), e 4 (by decide), e 5 (by decide), e 7 (by decide), e 8 (by decide), e 9 (by decide), e 10 (by decide), e 11 (by decide), e 12 (by decide), e 14 (by decide), e 15 (by decide), e 16 (by decide), e 17 (by decide), e 19 (by decide)]
/-- the rows of the model lie where it is, below the heap's end -/
theorem MR.narrow {D : va_G} {cA : Nat → ClassId} {A B : Nat → Prop} {M : Nat} {ad : Nat → Nat} {σ : MS} {H : Heap} (h : MR D cA A M ad σ H) (hB : ∀ q, A q → q < H.size → B q) : ∃ ad', MR D cA B M ad' σ H := by
  obtain ⟨h1, h2, h3, ⟨h4, h5⟩, h6, h7⟩ := h
  have hM : M < H.size := x_lt h1
  have e : ∀ k, k ∈ mAA → (if k ∈ mAA then ad k else M) = ad k := fun k hk => if_pos hk
  have hb : ∀ k, k ∈ mAA → ad k < H.size := by
    intro k hk
    by_cases q : k = 16 ∨ k = 19
    · exact q_lt (h3 k (by simp only [mLA, List.mem_cons, List.not_mem_nil, or_false]; omega))
    · exact q_lt (h2 k (by simp only [mAA, mIA, List.mem_cons, List.not_mem_nil, or_false] at hk ⊢; omega))
  refine ⟨fun k => if k ∈ mAA then ad k else M, ?_, fun k hk => ?_, fun k hk => ?_, ⟨hB _ h4 hM, fun k => ?_⟩, fun k hk => ?_, fun j k hj hk he => ?_⟩
  · have e0 : mF (fun k => if k ∈ mAA then ad k else M) σ.1 = mF ad σ.1 := mF_cong e
    rw [e0]
    exact h1
  · show xI (cA 0) (if k ∈ mAA then ad k else M) (mLen k) (σ.2.1 k) H
    rw [e k (mIA_in hk)]
    exact h2 k hk
  · show xL (cA 1) (if k ∈ mAA then ad k else M) (mLen k) (σ.2.2 k) H
    rw [e k (mLA_in hk)]
    exact h3 k hk
  · show B (if k ∈ mAA then ad k else M)
    by_cases hk : k ∈ mAA
    · rw [if_pos hk]
      exact hB _ (h5 k) (hb k hk)
    · rw [if_neg hk]
      exact hB _ h4 hM
  · show (if k ∈ mAA then ad k else M) ≠ M
    rw [e k hk]
    exact h6 k hk
  · have he2 : (if j ∈ mAA then ad j else M) = (if k ∈ mAA then ad k else M) := he
    rw [e j hj, e k hk] at he2
    exact h7 j k hj hk he2
set_option maxHeartbeats 4000000 in
set_option maxRecDepth 100000 in
theorem lw_head {p : Program} {l : Launch} {e : Env} {s : State} {m : MethodId} {below : List Frame} {meth : Method} {c : Code} {b L : Nat} {xs : Nat → Int32} {Q : State → Prop} (hx : p.tables.exec = Jvm.exec) (hb : c.code = cL_law) (hml : c.maxLocals = 8) (hown : s.vm.findClass RL = some m.cls) (hts : ∀ w ∈ wsL_law, w.before #[Value.ref b] s = true) {D : va_G} {cA : Nat → ClassId} (hK : xK D cA s) {z o M h1 ou : Nat} {ad : Nat → Nat} (hX : lK (fun q => s.heap.size ≤ q) z s) (hXs : va_X b L xs s s.heap) (hbl : b < s.heap.size) (hL : L ≤ 3584) (hst : l.stackTraces = false) (h01 : s.heap.size ≤ h1) (h1u : h1 ≤ ou) {i : Nat} (hi9 : 7 * i ≤ L) {H : Heap} {locs : List Loc} {ls : Array Slot} (hI : LI D cA s.heap.size h1 ou z o M ad i H) (hS : va_S (fun q => s.heap.size ≤ q) s.heap H locs) (hl : lv_has ls 8 [(0, .ref b), (1, .ref o), (2, .ref M), (3, .ref ou), (4, .int (nI (7 * i)))]) (hend : ∀ ls : Array Slot, W p l e room_1 s m #[Value.ref b] below meth c H locs (40 + 10 * i) (70000 + 1200 * i) Q (F0 m 2495 ls [])) (ih : ∀ (H2 : Heap) (locs2 : List Loc) (ls2 : Array Slot), 7 * (i + 1) ≤ L → LI D cA s.heap.size h1 ou z o M ad (i + 1) H2 → va_S (fun q => s.heap.size ≤ q) s.heap H2 locs2 → lv_has ls2 8 [(0, .ref b), (1, .ref o), (2, .ref M), (3, .ref ou), (4, .int (nI (7 * (i + 1))))] → W p l e room_1 s m #[Value.ref b] below meth c H2 locs2 (40 + 10 * (i + 1)) (70000 + 1200 * (i + 1)) Q (F0 m 23 ls2 [])) : W p l e room_1 s m #[Value.ref b] below meth c H locs (40 + 10 * i) (70000 + 1200 * i) Q (F0 m 23 ls []) := by
  refine lv_iload hx hb dL_law_23 (lv_at hl 4 rfl) ?_
  refine lv_aload_n hx hb dL_law_25 rfl (lv_at hl 0 rfl) ?_
  refine va_slen hx hb hXs hbl (Nat.not_le.mpr hbl) hS dL_law_26 ?_
  refine lv_bipush (v := nI 7) hx hb dL_law_27 (by decide) ?_
  refine xe_isub (z := nI L - nI 7) hx hb rfl dL_law_29 ?_
  refine lv_icmp_gt (tgt := 2495) hx hb dL_law_30 (by decide) (fun _ => hend ls) (fun q => ?_)
  have hlt : 7 * i + 7 ≤ L := by
    rw [Int32.lt_iff_toInt_lt, pk_sub_toInt (by omega) (by omega), nI_toInt (by omega)] at q
    omega
  refine lv_aload_n hx hb dL_law_33 rfl (lv_at hl 0 rfl) ?_
  refine lv_iload hx hb dL_law_34 (lv_at hl 4 rfl) ?_
  refine va_sld hx hb hXs hbl (Nat.not_le.mpr hbl) hS (vp_in_nI (show 7 * i < L by omega) (by omega)) dL_law_36 ?_
  rw [nI_clamp (show 7 * i < 2 ^ 31 by omega)]
  refine lv_bipush (v := 63) hx hb dL_law_37 (by decide) ?_
  refine lv_iand hx hb dL_law_39 ?_
  have ih9 := fun (H2 : Heap) (locs2 : List Loc) (ls2 : Array Slot) => ih H2 locs2 ls2 (by omega)
  generalize xs (7 * i) &&& 63 = x
  by_cases h32 : x.toInt < 0 ∨ 32 < x.toInt
  · refine lv_tableOut (tgt := 2489) hx hb dL_law_40 h32 (by decide) ?_
    refine lv_iinc (v := nI (7 * (i + 1))) (lv' := [(4, .int (nI (7 * (i + 1)))), (0, .ref b), (1, .ref o), (2, .ref M), (3, .ref ou)]) hx hb dL_law_2489 hl (k := 4) rfl (ni_inc7 i) (by decide) rfl (fun ls hl => ?_)
    refine lv_goto (tgt := 23) hx hb dL_law_2492 (by decide) ?_
    exact W.widen (k := 40 + 10 * (i + 1)) (n := 70000 + 1200 * (i + 1)) (by omega) (by omega) (ih9 _ _ _ hI.up hS (lv_sub hl [1, 2, 3, 4, 0] rfl))
  · have t1 : ¬ x.toInt < 0 := fun g => h32 (Or.inl g)
    have t2 : ¬ 32 < x.toInt := fun g => h32 (Or.inr g)
    rcases (show x.toInt = 0 ∨ x.toInt = 1 ∨ x.toInt = 2 ∨ x.toInt = 3 ∨ x.toInt = 4 ∨ x.toInt = 5 ∨ x.toInt = 6 ∨ x.toInt = 7 ∨ x.toInt = 8 ∨ x.toInt = 9 ∨ x.toInt = 10 ∨ x.toInt = 11 ∨ x.toInt = 12 ∨ x.toInt = 13 ∨ x.toInt = 14 ∨ x.toInt = 15 ∨ x.toInt = 16 ∨ x.toInt = 17 ∨ x.toInt = 18 ∨ x.toInt = 19 ∨ x.toInt = 20 ∨ x.toInt = 21 ∨ x.toInt = 22 ∨ x.toInt = 23 ∨ x.toInt = 24 ∨ x.toInt = 25 ∨ x.toInt = 26 ∨ x.toInt = 27 ∨ x.toInt = 28 ∨ x.toInt = 29 ∨ x.toInt = 30 ∨ x.toInt = 31 ∨ x.toInt = 32 by omega) with e | e | e | e | e | e | e | e | e | e | e | e | e | e | e | e | e | e | e | e | e | e | e | e | e | e | e | e | e | e | e | e | e
    · exact lv_tableIn (tgt := 188) (off := 148) hx hb dL_law_40 t1 t2 (by rw [e]; decide) (by decide) (lw_c0 hx hb hml hown hts hK hX hXs hbl hL hst h01 h1u hlt hI hS hl ih9)
    · exact lv_tableIn (tgt := 256) (off := 216) hx hb dL_law_40 t1 t2 (by rw [e]; decide) (by decide) (lw_c1 hx hb hml hown hts hK hX hXs hbl hL hst h01 h1u hlt hI hS hl ih9)
    · exact lv_tableIn (tgt := 316) (off := 276) hx hb dL_law_40 t1 t2 (by rw [e]; decide) (by decide) (lw_c2 hx hb hml hown hts hK hX hXs hbl hL hst h01 h1u hlt hI hS hl ih9)
    · exact lv_tableIn (tgt := 329) (off := 289) hx hb dL_law_40 t1 t2 (by rw [e]; decide) (by decide) (lw_c3 hx hb hml hown hts hK hX hXs hbl hL hst h01 h1u hlt hI hS hl ih9)
    · exact lv_tableIn (tgt := 409) (off := 369) hx hb dL_law_40 t1 t2 (by rw [e]; decide) (by decide) (lw_c4 hx hb hml hown hts hK hX hXs hbl hL hst h01 h1u hlt hI hS hl ih9)
    · exact lv_tableIn (tgt := 477) (off := 437) hx hb dL_law_40 t1 t2 (by rw [e]; decide) (by decide) (lw_c5 hx hb hml hown hts hK hX hXs hbl hL hst h01 h1u hlt hI hS hl ih9)
    · exact lv_tableIn (tgt := 490) (off := 450) hx hb dL_law_40 t1 t2 (by rw [e]; decide) (by decide) (lw_c6 hx hb hml hown hts hK hX hXs hbl hL hst h01 h1u hlt hI hS hl ih9)
    · exact lv_tableIn (tgt := 546) (off := 506) hx hb dL_law_40 t1 t2 (by rw [e]; decide) (by decide) (lw_c7 hx hb hml hown hts hK hX hXs hbl hL hst h01 h1u hlt hI hS hl ih9)
    · exact lv_tableIn (tgt := 621) (off := 581) hx hb dL_law_40 t1 t2 (by rw [e]; decide) (by decide) (lw_c8 hx hb hml hown hts hK hX hXs hbl hL hst h01 h1u hlt hI hS hl ih9)
    · exact lv_tableIn (tgt := 713) (off := 673) hx hb dL_law_40 t1 t2 (by rw [e]; decide) (by decide) (lw_c9 hx hb hml hown hts hK hX hXs hbl hL hst h01 h1u hlt hI hS hl ih9)
    · exact lv_tableIn (tgt := 831) (off := 791) hx hb dL_law_40 t1 t2 (by rw [e]; decide) (by decide) (lw_c10 hx hb hml hown hts hK hX hXs hbl hL hst h01 h1u hlt hI hS hl ih9)
    · exact lv_tableIn (tgt := 911) (off := 871) hx hb dL_law_40 t1 t2 (by rw [e]; decide) (by decide) (lw_c11 hx hb hml hown hts hK hX hXs hbl hL hst h01 h1u hlt hI hS hl ih9)
    · exact lv_tableIn (tgt := 986) (off := 946) hx hb dL_law_40 t1 t2 (by rw [e]; decide) (by decide) (lw_c12 hx hb hml hown hts hK hX hXs hbl hL hst h01 h1u hlt hI hS hl ih9)
    · exact lv_tableIn (tgt := 1058) (off := 1018) hx hb dL_law_40 t1 t2 (by rw [e]; decide) (by decide) (lw_c13 hx hb hml hown hts hK hX hXs hbl hL hst h01 h1u hlt hI hS hl ih9)
    · exact lv_tableIn (tgt := 1156) (off := 1116) hx hb dL_law_40 t1 t2 (by rw [e]; decide) (by decide) (lw_c14 hx hb hml hown hts hK hX hXs hbl hL hst h01 h1u hlt hI hS hl ih9)
    · exact lv_tableIn (tgt := 1248) (off := 1208) hx hb dL_law_40 t1 t2 (by rw [e]; decide) (by decide) (lw_c15 hx hb hml hown hts hK hX hXs hbl hL hst h01 h1u hlt hI hS hl ih9)
    · exact lv_tableIn (tgt := 1328) (off := 1288) hx hb dL_law_40 t1 t2 (by rw [e]; decide) (by decide) (lw_c16 hx hb hml hown hts hK hX hXs hbl hL hst h01 h1u hlt hI hS hl ih9)
    · exact lv_tableIn (tgt := 1396) (off := 1356) hx hb dL_law_40 t1 t2 (by rw [e]; decide) (by decide) (lw_c17 hx hb hml hown hts hK hX hXs hbl hL hst h01 h1u hlt hI hS hl ih9)
    · exact lv_tableIn (tgt := 1476) (off := 1436) hx hb dL_law_40 t1 t2 (by rw [e]; decide) (by decide) (lw_c18 hx hb hml hown hts hK hX hXs hbl hL hst h01 h1u hlt hI hS hl ih9)
    · exact lv_tableIn (tgt := 1556) (off := 1516) hx hb dL_law_40 t1 t2 (by rw [e]; decide) (by decide) (lw_c19 hx hb hml hown hts hK hX hXs hbl hL hst h01 h1u hlt hI hS hl ih9)
    · exact lv_tableIn (tgt := 1643) (off := 1603) hx hb dL_law_40 t1 t2 (by rw [e]; decide) (by decide) (lw_c20 hx hb hml hown hts hK hX hXs hbl hL hst h01 h1u hlt hI hS hl ih9)
    · exact lv_tableIn (tgt := 1656) (off := 1616) hx hb dL_law_40 t1 t2 (by rw [e]; decide) (by decide) (lw_c21 hx hb hml hown hts hK hX hXs hbl hL hst h01 h1u hlt hI hS hl ih9)
    · exact lv_tableIn (tgt := 1724) (off := 1684) hx hb dL_law_40 t1 t2 (by rw [e]; decide) (by decide) (lw_c22 hx hb hml hown hts hK hX hXs hbl hL hst h01 h1u hlt hI hS hl ih9)
    · exact lv_tableIn (tgt := 1792) (off := 1752) hx hb dL_law_40 t1 t2 (by rw [e]; decide) (by decide) (lw_c23 hx hb hml hown hts hK hX hXs hbl hL hst h01 h1u hlt hI hS hl ih9)
    · exact lv_tableIn (tgt := 1859) (off := 1819) hx hb dL_law_40 t1 t2 (by rw [e]; decide) (by decide) (lw_c24 hx hb hml hown hts hK hX hXs hbl hL hst h01 h1u hlt hI hS hl ih9)
    · exact lv_tableIn (tgt := 1927) (off := 1887) hx hb dL_law_40 t1 t2 (by rw [e]; decide) (by decide) (lw_c25 hx hb hml hown hts hK hX hXs hbl hL hst h01 h1u hlt hI hS hl ih9)
    · exact lv_tableIn (tgt := 1995) (off := 1955) hx hb dL_law_40 t1 t2 (by rw [e]; decide) (by decide) (lw_c26 hx hb hml hown hts hK hX hXs hbl hL hst h01 h1u hlt hI hS hl ih9)
    · exact lv_tableIn (tgt := 2063) (off := 2023) hx hb dL_law_40 t1 t2 (by rw [e]; decide) (by decide) (lw_c27 hx hb hml hown hts hK hX hXs hbl hL hst h01 h1u hlt hI hS hl ih9)
    · exact lv_tableIn (tgt := 2138) (off := 2098) hx hb dL_law_40 t1 t2 (by rw [e]; decide) (by decide) (lw_c28 hx hb hml hown hts hK hX hXs hbl hL hst h01 h1u hlt hI hS hl ih9)
    · exact lv_tableIn (tgt := 2206) (off := 2166) hx hb dL_law_40 t1 t2 (by rw [e]; decide) (by decide) (lw_c29 hx hb hml hown hts hK hX hXs hbl hL hst h01 h1u hlt hI hS hl ih9)
    · exact lv_tableIn (tgt := 2262) (off := 2222) hx hb dL_law_40 t1 t2 (by rw [e]; decide) (by decide) (lw_c30 hx hb hml hown hts hK hX hXs hbl hL hst h01 h1u hlt hI hS hl ih9)
    · exact lv_tableIn (tgt := 2330) (off := 2290) hx hb dL_law_40 t1 t2 (by rw [e]; decide) (by decide) (lw_c31 hx hb hml hown hts hK hX hXs hbl hL hst h01 h1u hlt hI hS hl ih9)
    · exact lv_tableIn (tgt := 2410) (off := 2370) hx hb dL_law_40 t1 t2 (by rw [e]; decide) (by decide) (lw_c32 hx hb hml hown hts hK hX hXs hbl hL hst h01 h1u hlt hI hS hl ih9)
