/-! the state behind a new client, a new layer -/
theorem cn_kLy {p q w : Int32} (h : inB p 0 99 = true) : (cnF q w = true ↔ (inB p 0 99 && inB q 0 3 && inB w 0 (mostF q)) = true) := by
  rw [h, Bool.true_and]
  exact Iff.rfl
section CLG
variable {D : va_G} {cA : Nat → ClassId} {A : Nat → Prop} {lab : Nat → Nat} {nm : Nat → Nat → Nat} {rf : Nat → Nat → Option Nat} {f : Nat → Nat → Int32} {nC nL nV : Nat} {H H1 : Heap}
theorem cl_CS (h : CRv D cA lab nm rf f nC nL nV H) (hl : CRl A lab nm rf nC nL) (hq : IQ0 D cA nm H) (hL : nL ≤ 8) (hC : nC < 12) {a b mc : Int32} {q1 dq cap2 : Nat} {f2 : Nat → Option Nat} (hk : ∀ q, q < H.size → q ≠ nm 1 0 → lab q ≠ 5 → H1[q]? = H[q]?) (hO : xO D (nm 1 0) 0 [.int mc, .ref dq, .int (nI (nC + 1))] H1) (hQ : xQ (cA 4) dq cap2 f2 H1) (r1 : nC + 1 ≤ cap2) (r2 : cap2 ≤ 1000) (r3 : ∀ j, j < nC → f2 j = some (nm 2 j)) (r4 : f2 nC = some q1) (hd : lab dq = 5 ∨ H.size ≤ dq) (hq1 : H.size ≤ q1) (hqd : ¬ q1 = dq) (hA1 : A q1) (hA2 : A dq) (hN1 : xO D q1 1 [.int a, .int b] H1) : CS D cA A (nm 12 0) (nm 0 0) (mup (mup f 0 nC a) 1 nC b) (nC + 1) nL nV H1 := by
  have hs : ∀ x, x < H.size → lu (lu lab dq 5) q1 (20 + nC) x = lab x := fun x hx => by
    rw [lu_un (by omega)]
    by_cases e : x = dq
    · subst e
      rw [lu_at]
      rcases hd with hd | hd
      · exact hd.symm
      · omega
    · rw [lu_un e]
  have hl2 := hl.relab h hq (lab' := lu (lu lab dq 5) q1 (20 + nC)) (lu_A (lu_A hl.1 hA2) hA1) hs
  have X := CRv.keptX (H1 := H1) (lab' := lu (lu lab dq 5) q1 (20 + nC)) h hl hq (fun x => x = 2 ∨ x = 5) (by omega) (fun q h1 h2 h3 => hk q h1 (fun e => h3 (Or.inl (by rw [e]; exact hl.2.2.1))) (fun e => h3 (Or.inr e))) hs
  obtain ⟨h1, h2, h3, h4, h5, h6, h7, h8, h9, h10, h11, h12⟩ := X
  have E : ∀ k, k ≠ 0 → k ≠ 1 → mup (mup f 0 nC a) 1 nC b k = f k := fun k k0 k1 => by rw [mupN k1, mupN k0]
  have N : ∀ k2, k2 ≠ 2 → mup nm 2 nC q1 k2 = nm k2 := fun k2 k0 => mupN k0
  have N2 : ∀ j, j ≠ nC → mup nm 2 nC q1 2 j = nm 2 j := fun j hj => mupU hj
  refine ⟨lu (lu lab dq 5) q1 (20 + nC), mup nm 2 nC q1, rf, ⟨?_, ?_, ?_, ?_, fun j hj => ?_, fun j hj => ?_, fun j hj => ?_, fun j hj => ?_, fun j hj => ?_, fun j b2 hj hb => ?_, fun v hv => ?_⟩, ?_, ?_, by rw [N 12 (by decide)], by rw [N 0 (by decide)]⟩
  · rw [N 0 (by decide), N 1 (by decide), N 9 (by decide), N 7 (by decide)]; exact h1 (by omega)
  · rw [N 12 (by decide), N 1 (by decide)]
    refine ⟨mc, dq, cap2, f2, hO, fun _ => hQ, r1, r2, fun j hj => ?_, fun _ => by rw [lu_un (fun e => hqd e.symm), lu_at], fun e => by omega⟩
    by_cases e : j = nC
    · rw [e, r4, mupA]
    · rw [r3 j (by omega), N2 j e]
  · rw [N 12 (by decide), N 1 (by decide), N 3 (by decide)]; exact h3 (by omega) (by omega)
  · rw [N 12 (by decide), N 1 (by decide), N 7 (by decide)]; exact h4 (by omega) (by omega)
  · by_cases e : j = nC
    · subst e
      rw [mupA, mupA, mupN (by decide), mupA]
      exact hN1
    · rw [N2 j e, mupU e, mupU e, mupU e, mupU e]
      exact h5 j (by omega) (by omega)
  · rw [N 3 (by decide), N 4 (by decide), N 5 (by decide), N 6 (by decide), E 4 (by decide) (by decide), E 5 (by decide) (by decide), E 3 (by decide) (by decide)]; exact h6 j hj (by omega)
  · rw [N 4 (by decide), hoF_cong (E 11 (by decide) (by decide))]; exact h7 j hj (by omega)
  · rw [N 5 (by decide)]; exact h8 j hj (by omega)
  · rw [N 6 (by decide), E 8 (by decide) (by decide)]; exact h9 j hj (by omega)
  · rw [N 10 (by decide), N 11 (by decide), E 10 (by decide) (by decide), E 9 (by decide) (by decide)]; exact h10 j b2 hj hb (by omega)
  · rw [N 7 (by decide), E 12 (by decide) (by decide)]; exact h11 v hv
  · obtain ⟨l0, l1, l2, l3, l4, l8, l9, lC, lL, lR⟩ := hl2
    refine ⟨l0, ?_, ?_, ?_, ?_, ?_, ?_, fun j hj => ?_, fun j hj => ?_, fun a b ha hb hne => ?_⟩
    · rw [N 0 (by decide)]; exact l1
    · rw [N 1 (by decide)]; exact l2
    · rw [N 1 (by decide)]; exact l3
    · rw [N 1 (by decide)]; exact l4
    · rw [N 9 (by decide)]; exact l8
    · rw [N 9 (by decide)]; exact l9
    · by_cases e : j = nC
      · rw [e, mupA, lu_at]
      · rw [N2 j e]; exact lC j (by omega)
    · rw [N 3 (by decide), N 4 (by decide), N 5 (by decide), N 6 (by decide)]; exact lL j hj
    · rw [N 10 (by decide), N 11 (by decide)]; exact lR a b ha hb hne
  · obtain ⟨ic, en, wr, lo, uw, kn, oc, fa, g, r1, r2⟩ := h12 (by omega) (by omega)
    refine ⟨ic, en, wr, lo, uw, kn, oc, fa, g, ?_, ?_⟩
    · rw [N 9 (by decide)]; exact r1
    · rw [N 9 (by decide)]; exact r2
theorem ly_CS (h : CRv D cA lab nm rf f nC nL nV H) (hl : CRl A lab nm rf nC nL) (hq : IQ0 D cA nm H) (hi : CRi f nC nL nV) (hL : nL < 8) {p s w mc : Int32} {q0 q1 q2 q3 dq cap2 : Nat} {f2 : Nat → Option Nat} (hk : ∀ q, q < H.size → q ≠ nm 1 1 → lab q ≠ 6 → H1[q]? = H[q]?) (hO : xO D (nm 1 1) 0 [.int mc, .ref dq, .int (nI (nL + 1))] H1) (hQ : xQ (cA 4) dq cap2 f2 H1) (r1 : nL + 1 ≤ cap2) (r2 : cap2 ≤ 1000) (r3 : ∀ j, j < nL → f2 j = some (nm 3 j)) (r4 : f2 nL = some q0) (hd : lab dq = 6 ∨ H.size ≤ dq) (hq0 : H.size ≤ q0) (hq1 : q0 < q1) (hq2 : q1 < q2) (hq3 : q2 < q3) (hqd : dq < q0 ∨ q3 < dq) (hA : ∀ x, H.size ≤ x → A x) (hA2 : A dq) (hN0 : xO D q0 5 (lyV (nI nL) s w p q1 q2 q3) H1) (hN1 : xI (cA 0) q1 17 (fun _ => 0) H1) (hN2 : xQ (cA 3) q2 16 (fun _ => none) H1) (hN3 : xI (cA 0) q3 16 (fun _ => 0) H1) : CS D cA A (nm 12 0) (nm 0 0) (mup (mup (mup f 3 nL p) 4 nL s) 5 nL w) nC (nL + 1) nV H1 := by
  obtain ⟨b1, b2, b3, -, -, -, -, -, i11, i11b, i8, i10⟩ := hi
  have hs : ∀ x, x < H.size → lu (lu (lu (lu (lu lab dq 6) q0 (40 + nL)) q1 (60 + nL)) q2 (80 + nL)) q3 (100 + nL) x = lab x := fun x hx => by
    rw [lu_un (by omega), lu_un (by omega), lu_un (by omega), lu_un (by omega)]
    by_cases e : x = dq
    · subst e
      rw [lu_at]
      rcases hd with hd | hd
      · exact hd.symm
      · omega
    · rw [lu_un e]
  generalize hlb : lu (lu (lu (lu (lu lab dq 6) q0 (40 + nL)) q1 (60 + nL)) q2 (80 + nL)) q3 (100 + nL) = lb at hs
  have hlA : ∀ x, lb x ≠ 0 → A x := by rw [← hlb]; exact lu_A (lu_A (lu_A (lu_A (lu_A hl.1 hA2) (hA _ hq0)) (hA _ (by omega))) (hA _ (by omega))) (hA _ (by omega))
  have b0 : lb q0 = 40 + nL := by rw [← hlb, lu_un (by omega), lu_un (by omega), lu_un (by omega), lu_at]
  have b1' : lb q1 = 60 + nL := by rw [← hlb, lu_un (by omega), lu_un (by omega), lu_at]
  have b2' : lb q2 = 80 + nL := by rw [← hlb, lu_un (by omega), lu_at]
  have b3' : lb q3 = 100 + nL := by rw [← hlb, lu_at]
  have bd : lb dq = 6 := by rw [← hlb, lu_un (by omega), lu_un (by omega), lu_un (by omega), lu_un (by omega), lu_at]
  have hl2 := hl.relab h hq (lab' := lb) hlA hs
  have X := CRv.keptX (H1 := H1) (lab' := lb) h hl hq (fun x => x = 3 ∨ x = 6) (by omega) (fun q h1 h2 h3 => hk q h1 (fun e => h3 (Or.inl (by rw [e]; exact hl.2.2.2.1))) (fun e => h3 (Or.inr e))) hs
  obtain ⟨h1, h2, h3, h4, h5, h6, h7, h8, h9, h10, h11, h12⟩ := X
  have E : ∀ k, k ≠ 3 → k ≠ 4 → k ≠ 5 → mup (mup (mup f 3 nL p) 4 nL s) 5 nL w k = f k := fun k k0 k1 k2 => by rw [mupN k2, mupN k1, mupN k0]
  have N : ∀ k, k ≠ 3 → k ≠ 4 → k ≠ 5 → k ≠ 6 → mup (mup (mup (mup nm 3 nL q0) 4 nL q1) 5 nL q2) 6 nL q3 k = nm k := fun k k0 k1 k2 k3 => by rw [mupN k3, mupN k2, mupN k1, mupN k0]
  have NU : ∀ k j, j ≠ nL → mup (mup (mup (mup nm 3 nL q0) 4 nL q1) 5 nL q2) 6 nL q3 k j = nm k j := fun k j hj => by rw [mupU hj, mupU hj, mupU hj, mupU hj]
  have N3 : mup (mup (mup (mup nm 3 nL q0) 4 nL q1) 5 nL q2) 6 nL q3 3 nL = q0 := by rw [mupN (by decide), mupN (by decide), mupN (by decide), mupA]
  have N4 : mup (mup (mup (mup nm 3 nL q0) 4 nL q1) 5 nL q2) 6 nL q3 4 nL = q1 := by rw [mupN (by decide), mupN (by decide), mupA]
  have N5 : mup (mup (mup (mup nm 3 nL q0) 4 nL q1) 5 nL q2) 6 nL q3 5 nL = q2 := by rw [mupN (by decide), mupA]
  have N6 : mup (mup (mup (mup nm 3 nL q0) 4 nL q1) 5 nL q2) 6 nL q3 6 nL = q3 := mupA
  refine ⟨lb, mup (mup (mup (mup nm 3 nL q0) 4 nL q1) 5 nL q2) 6 nL q3, fun j => if j = nL then fun _ => none else rf j, ⟨?_, ?_, ?_, ?_, fun j hj => ?_, fun j hj => ?_, fun j hj => ?_, fun j hj => ?_, fun j hj => ?_, fun j b2 hj hb => ?_, fun v hv => ?_⟩, ?_, ?_, by rw [N 12 (by decide) (by decide) (by decide) (by decide)], by rw [N 0 (by decide) (by decide) (by decide) (by decide)]⟩
  · rw [N 0 (by decide) (by decide) (by decide) (by decide), N 1 (by decide) (by decide) (by decide) (by decide), N 9 (by decide) (by decide) (by decide) (by decide), N 7 (by decide) (by decide) (by decide) (by decide)]; exact h1 (by omega)
  · rw [N 12 (by decide) (by decide) (by decide) (by decide), N 1 (by decide) (by decide) (by decide) (by decide), N 2 (by decide) (by decide) (by decide) (by decide)]; exact h2 (by omega) (by omega)
  · rw [N 12 (by decide) (by decide) (by decide) (by decide), N 1 (by decide) (by decide) (by decide) (by decide)]
    refine ⟨mc, dq, cap2, f2, hO, fun _ => hQ, r1, r2, fun j hj => ?_, fun _ => bd, fun e => by omega⟩
    by_cases e : j = nL
    · rw [e, r4, N3]
    · rw [r3 j (by omega), NU 3 j e]
  · rw [N 12 (by decide) (by decide) (by decide) (by decide), N 1 (by decide) (by decide) (by decide) (by decide), N 7 (by decide) (by decide) (by decide) (by decide)]; exact h4 (by omega) (by omega)
  · rw [N 2 (by decide) (by decide) (by decide) (by decide), E 0 (by decide) (by decide) (by decide), E 1 (by decide) (by decide) (by decide)]; exact h5 j hj (by omega)
  · by_cases e : j = nL
    · subst e
      rw [N3, N4, N5, N6, mupA, mupN (show 4 ≠ 5 by decide), mupA, mupN (show 3 ≠ 5 by decide), mupN (show 3 ≠ 4 by decide), mupA]
      exact hN0
    · rw [NU 3 j e, NU 4 j e, NU 5 j e, NU 6 j e]
      have e2 : ∀ k, mup (mup (mup f 3 nL p) 4 nL s) 5 nL w k j = f k j := fun k => by rw [mupU e, mupU e, mupU e]
      rw [e2 4, e2 5, e2 3]
      exact h6 j (by omega) (by omega)
  · by_cases e : j = nL
    · subst e
      rw [N4, hoF_cong (E 11 (by decide) (by decide) (by decide))]
      refine xI_cong hN1 (fun q hq9 => ?_)
      unfold hoF
      split
      · exact (i11 _ (by omega) (by omega)).symm
      · exact (i11b _ (by omega) (by omega)).symm
    · rw [NU 4 j e, hoF_cong (E 11 (by decide) (by decide) (by decide))]; exact h7 j (by omega) (by omega)
  · by_cases e : j = nL
    · subst e
      rw [N5]
      show xQ (cA 3) q2 16 (if j = j then fun _ => none else rf j) H1
      rw [if_pos rfl]
      exact hN2
    · rw [NU 5 j e]
      show xQ (cA 3) (nm 5 j) 16 (if j = nL then fun _ => none else rf j) H1
      rw [if_neg e]
      exact h8 j (by omega) (by omega)
  · by_cases e : j = nL
    · subst e
      rw [N6, E 8 (by decide) (by decide) (by decide)]
      exact xI_cong hN3 (fun q hq9 => (i8 _ (by omega) (by omega)).symm)
    · rw [NU 6 j e, E 8 (by decide) (by decide) (by decide)]; exact h9 j (by omega) (by omega)
  · rw [N 10 (by decide) (by decide) (by decide) (by decide), N 11 (by decide) (by decide) (by decide) (by decide), E 10 (by decide) (by decide) (by decide), E 9 (by decide) (by decide) (by decide)]
    by_cases e : j = nL
    · subst e
      left
      exact ⟨by simp, i10 _ (by omega) (by omega)⟩
    · simp only [if_neg e]
      exact h10 j b2 (by omega) hb (by omega)
  · rw [N 7 (by decide) (by decide) (by decide) (by decide), E 12 (by decide) (by decide) (by decide)]; exact h11 v hv
  · obtain ⟨l0, l1, l2, l3, l4, l8, l9, lC, lL, lR⟩ := hl2
    refine ⟨l0, ?_, ?_, ?_, ?_, ?_, ?_, fun j hj => ?_, fun j hj => ?_, fun a b ha hb hne => ?_⟩
    · rw [N 0 (by decide) (by decide) (by decide) (by decide)]; exact l1
    · rw [N 1 (by decide) (by decide) (by decide) (by decide)]; exact l2
    · rw [N 1 (by decide) (by decide) (by decide) (by decide)]; exact l3
    · rw [N 1 (by decide) (by decide) (by decide) (by decide)]; exact l4
    · rw [N 9 (by decide) (by decide) (by decide) (by decide)]; exact l8
    · rw [N 9 (by decide) (by decide) (by decide) (by decide)]; exact l9
    · rw [N 2 (by decide) (by decide) (by decide) (by decide)]; exact lC j hj
    · by_cases e : j = nL
      · rw [e, N3, N4, N5, N6]; exact ⟨b0, b1', b2', b3'⟩
      · rw [NU 3 j e, NU 4 j e, NU 5 j e, NU 6 j e]; exact lL j (by omega)
    · rw [N 10 (by decide) (by decide) (by decide) (by decide), N 11 (by decide) (by decide) (by decide) (by decide)]
      by_cases e : a = nL
      · simp [e] at hne
      · simp only [if_neg e] at hne
        exact lR a b (by omega) hb hne
  · obtain ⟨ic, en, wr, lo, uw, kn, oc, fa, g, r1, r2⟩ := h12 (by omega) (by omega)
    refine ⟨ic, en, wr, lo, uw, kn, oc, fa, g, ?_, ?_⟩
    · rw [N 9 (by decide) (by decide) (by decide) (by decide)]; exact r1
    · rw [N 9 (by decide) (by decide) (by decide) (by decide)]; exact r2
end CLG
