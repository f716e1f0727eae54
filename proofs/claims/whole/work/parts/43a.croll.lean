/-! labels of new cells; a rollout's state -/
def lu (lab : Nat → Nat) (q v : Nat) : Nat → Nat := fun x => if x = q then v else lab x
theorem lu_at {lab : Nat → Nat} {q v : Nat} : lu lab q v q = v := if_pos rfl
theorem lu_un {lab : Nat → Nat} {q v x : Nat} (h : x ≠ q) : lu lab q v x = lab x := if_neg h
theorem lu_A {A : Nat → Prop} {lab : Nat → Nat} {q v : Nat} (h : ∀ x, lab x ≠ 0 → A x) (hq : A q) : ∀ x, lu lab q v x ≠ 0 → A x := fun x hx => by
  by_cases e : x = q
  · rw [e]; exact hq
  · exact h x (by rw [lu_un e] at hx; exact hx)
section CRLx
variable {D : va_G} {cA : Nat → ClassId} {A : Nat → Prop} {lab lab' : Nat → Nat} {nm : Nat → Nat → Nat} {rf : Nat → Nat → Option Nat} {f : Nat → Nat → Int32} {nC nL nV : Nat} {H H1 : Heap}
theorem CRl.relab (hl : CRl A lab nm rf nC nL) (h : CRv D cA lab nm rf f nC nL nV H) (hq : IQ0 D cA nm H) (hA : ∀ x, lab' x ≠ 0 → A x) (hs : ∀ x, x < H.size → lab' x = lab x) : CRl A lab' nm rf nC nL := by
  obtain ⟨-, l1, l2, l3, l4, l8, l9, lC, lL, lR⟩ := hl
  obtain ⟨hT, ⟨mc1, d1, c1, f1, hOC, -⟩, ⟨mc2, d2, c2, f2, hOL, -⟩, ⟨mc3, d3, c3, f3, hOV, -⟩, hC, hL, hHo, hRo, hCh, hRl, hEn⟩ := h
  obtain ⟨ic, en, wr, lo, uw, kn, oc, fa, g, e1, e2⟩ := hq
  refine ⟨hA, (hs _ (x_lt hT)).trans l1, (hs _ (x_lt hOC)).trans l2, (hs _ (x_lt hOL)).trans l3, (hs _ (x_lt hOV)).trans l4, (hs _ (x_lt e1)).trans l8, (hs _ (q_lt e2)).trans l9, fun j hj => (hs _ (x_lt (hC j hj))).trans (lC j hj), fun j hj => ⟨(hs _ (x_lt (hL j hj))).trans (lL j hj).1, (hs _ (q_lt (hHo j hj))).trans (lL j hj).2.1, (hs _ (q_lt (hRo j hj))).trans (lL j hj).2.2.1, (hs _ (q_lt (hCh j hj))).trans (lL j hj).2.2.2⟩, fun i b hi hb hne => ?_⟩
  rcases hRl i b hi hb with ⟨r1, -⟩ | ⟨r1, r2, r3, r4⟩
  · exact absurd r1 hne
  · obtain ⟨b4, f4, s4, -, -, r5⟩ := r4
    exact ⟨(hs _ (x_lt r3)).trans (lR i b hi hb hne).1, (hs _ (x_lt r5)).trans (lR i b hi hb hne).2⟩
/-- a new rollout on the cell k of the layer i -/
theorem rl_CS (h : CRv D cA lab nm rf f nC nL nV H) (hl : CRl A lab nm rf nC nL) (hq : IQ0 D cA nm H) {i k : Nat} (hi : i < nL) (hL : nL ≤ 8) (hC : nC ≤ 12) (hk16 : k < 16) {q1 q2 : Nat} (hq1 : H.size ≤ q1) (hq2 : H.size ≤ q2) (hqq : ¬ q1 = q2) (hA1 : A q1) (hA2 : A q2) {e : Int32} (hk : ∀ q, q < H.size → q ≠ nm 5 i → H1[q]? = H[q]?) (hn : xQ (cA 3) (nm 5 i) 16 (va_up (rf i) k (some q1)) H1) (hO1 : xO D q1 6 [.ref q2, .int 0] H1) (he : eR D (some q2) e H1) : CS D cA A (nm 12 0) (nm 0 0) (mup (mup f 9 (16 * i + k) e) 10 (16 * i + k) 0) nC nL nV H1 := by
  have hlL := hl.2.2.2.2.2.2.2.2.1
  have hs : ∀ x, x < H.size → lu (lu lab q1 (200 + (16 * i + k))) q2 10 x = lab x := fun x hx => by rw [lu_un (by omega), lu_un (by omega)]
  have hl2 := hl.relab h hq (lab' := lu (lu lab q1 (200 + (16 * i + k))) q2 10) (lu_A (lu_A hl.1 hA1) hA2) hs
  have X := CRv.keptX (H1 := H1) (lab' := lu (lu lab q1 (200 + (16 * i + k))) q2 10) h hl hq (fun x => x = 80 + i) (by omega) (fun q h1 h2 h3 => hk q h1 (fun e => h3 (by rw [e]; exact (hlL i hi).2.2.1))) hs
  obtain ⟨h1, h2, h3, h4, h5, h6, h7, h8, h9, h10, h11, h12⟩ := X
  have E : ∀ k2, k2 ≠ 9 → k2 ≠ 10 → mup (mup f 9 (16 * i + k) e) 10 (16 * i + k) 0 k2 = f k2 := fun k2 k0 k1 => by rw [mupN k1, mupN k0]
  have N : ∀ k2, k2 ≠ 10 → k2 ≠ 11 → mup (mup nm 10 (16 * i + k) q1) 11 (16 * i + k) q2 k2 = nm k2 := fun k2 k0 k1 => by rw [mupN k1, mupN k0]
  have N10 : ∀ j, mup (mup nm 10 (16 * i + k) q1) 11 (16 * i + k) q2 10 j = if j = 16 * i + k then q1 else nm 10 j := fun j => by
    rw [mupN (by decide)]
    unfold mup
    rw [if_pos rfl]
  have N11 : ∀ j, mup (mup nm 10 (16 * i + k) q1) 11 (16 * i + k) q2 11 j = if j = 16 * i + k then q2 else nm 11 j := fun j => by
    unfold mup
    simp
  refine ⟨lu (lu lab q1 (200 + (16 * i + k))) q2 10, mup (mup nm 10 (16 * i + k) q1) 11 (16 * i + k) q2, fun a b => if a = i ∧ b = k then some q1 else rf a b, ⟨?_, ?_, ?_, ?_, fun j hj => ?_, fun j hj => ?_, fun j hj => ?_, fun j hj => ?_, fun j hj => ?_, fun j b2 hj hb => ?_, fun v hv => ?_⟩, ?_, ?_, by rw [N 12 (by decide) (by decide)], by rw [N 0 (by decide) (by decide)]⟩
  · rw [N 0 (by decide) (by decide), N 1 (by decide) (by decide), N 9 (by decide) (by decide), N 7 (by decide) (by decide)]; exact h1 (by omega)
  · rw [N 12 (by decide) (by decide), N 1 (by decide) (by decide), N 2 (by decide) (by decide)]; exact h2 (by omega) (by omega)
  · rw [N 12 (by decide) (by decide), N 1 (by decide) (by decide), N 3 (by decide) (by decide)]; exact h3 (by omega) (by omega)
  · rw [N 12 (by decide) (by decide), N 1 (by decide) (by decide), N 7 (by decide) (by decide)]; exact h4 (by omega) (by omega)
  · rw [N 2 (by decide) (by decide), E 0 (by decide) (by decide), E 1 (by decide) (by decide)]; exact h5 j hj (by omega)
  · rw [N 3 (by decide) (by decide), N 4 (by decide) (by decide), N 5 (by decide) (by decide), N 6 (by decide) (by decide), E 4 (by decide) (by decide), E 5 (by decide) (by decide), E 3 (by decide) (by decide)]; exact h6 j hj (by omega)
  · rw [N 4 (by decide) (by decide), hoF_cong (E 11 (by decide) (by decide))]; exact h7 j hj (by omega)
  · rw [N 5 (by decide) (by decide)]
    by_cases e1 : j = i
    · subst e1
      refine xQ_cong hn (fun q hq9 => ?_)
      unfold va_up
      by_cases e2 : q = k
      · simp [e2]
      · simp [e2]
    · refine xQ_cong (h8 j hj (by omega)) (fun q hq9 => ?_)
      simp [e1]
  · rw [N 6 (by decide) (by decide), E 8 (by decide) (by decide)]; exact h9 j hj (by omega)
  · rw [N10, N11]
    by_cases e1 : j = i ∧ b2 = k
    · obtain ⟨e2, e3⟩ := e1
      subst e2; subst e3
      right
      simp only [and_self, if_true]
      rw [mupA, mupN (by decide), mupA]
      exact ⟨trivial, by decide, hO1, he⟩
    · have e2 : ¬ 16 * j + b2 = 16 * i + k := by omega
      simp only [if_neg e1, if_neg e2]
      rw [mupU e2, mupU e2, mupU e2, mupU e2]
      exact h10 j b2 hj hb (by omega)
  · rw [N 7 (by decide) (by decide), E 12 (by decide) (by decide)]; exact h11 v hv
  · obtain ⟨l0, l1, l2, l3, l4, l8, l9, lC, lL, lR⟩ := hl2
    refine ⟨l0, ?_, ?_, ?_, ?_, ?_, ?_, fun j hj => ?_, fun j hj => ?_, fun a b ha hb hne => ?_⟩
    · rw [N 0 (by decide) (by decide)]; exact l1
    · rw [N 1 (by decide) (by decide)]; exact l2
    · rw [N 1 (by decide) (by decide)]; exact l3
    · rw [N 1 (by decide) (by decide)]; exact l4
    · rw [N 9 (by decide) (by decide)]; exact l8
    · rw [N 9 (by decide) (by decide)]; exact l9
    · rw [N 2 (by decide) (by decide)]; exact lC j hj
    · rw [N 3 (by decide) (by decide), N 4 (by decide) (by decide), N 5 (by decide) (by decide), N 6 (by decide) (by decide)]; exact lL j hj
    · rw [N10, N11]
      by_cases e1 : a = i ∧ b = k
      · obtain ⟨e2, e3⟩ := e1
        subst e2; subst e3
        rw [if_pos rfl, if_pos rfl, lu_at, lu_un hqq, lu_at]
        exact ⟨rfl, rfl⟩
      · have e2 : ¬ 16 * a + b = 16 * i + k := by omega
        simp only [if_neg e1] at hne
        rw [if_neg e2, if_neg e2]
        exact lR a b ha hb hne
  · have h13 := h12 (by omega) (by omega)
    obtain ⟨ic, en, wr, lo, uw, kn, oc, fa, g, r1, r2⟩ := h13
    refine ⟨ic, en, wr, lo, uw, kn, oc, fa, g, ?_, ?_⟩
    · rw [N 9 (by decide) (by decide)]; exact r1
    · rw [N 9 (by decide) (by decide)]; exact r2
end CRLx
theorem CRi.rl {f : Nat → Nat → Int32} {nC nL nV : Nat} (h : CRi f nC nL nV) {k : Nat} {e x : Int32} (hk : k < 16 * nL) (he : gdE e) : CRi (mup (mup f 9 k e) 10 k x) nC nL nV := by
  have E : ∀ k2, k2 ≠ 9 → k2 ≠ 10 → mup (mup f 9 k e) 10 k x k2 = f k2 := fun k2 k0 k1 => by rw [mupN k1, mupN k0]
  obtain ⟨b1, b2, b3, h4, h5, h6, h7, h8, h9, h10, h11, h12⟩ := h
  refine ⟨b1, b2, b3, ?_, ?_, ?_, ?_, ?_, ?_, ?_, ?_, ?_⟩
  · rw [E 4 (by decide) (by decide)]; exact h4
  · intro k2 hk2 j
    rcases hk2 with rfl | rfl | rfl
    · rw [E 7 (by decide) (by decide)]; exact h5 7 (by omega) j
    · rw [mupN (by decide)]
      by_cases q : j = k
      · rw [q, mupA]; exact he
      · rw [mupU q]; exact h5 9 (by omega) j
    · rw [E 12 (by decide) (by decide)]; exact h5 12 (by omega) j
  · rw [E 7 (by decide) (by decide), E 12 (by decide) (by decide)]; exact h6
  · rw [E 12 (by decide) (by decide)]; exact h7
  · rw [E 11 (by decide) (by decide)]; exact h8
  · rw [E 11 (by decide) (by decide)]; exact h9
  · rw [E 11 (by decide) (by decide)]; exact h10
  · rw [E 8 (by decide) (by decide)]; exact h11
  · intro a h1 h2
    rw [mupU (by omega), mupN (by decide)]
    exact h12 a h1 h2
