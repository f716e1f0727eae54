/-! the state while one version turns into the next -/
def dfF (f : Nat → Nat → Int32) (x : Nat → Int32) (k : Nat) : Bool := !decide (f 7 k = x k)
/-- the first n cells' changes are told -/
def tuF (f : Nat → Nat → Int32) (x : Nat → Int32) (v n : Nat) : Nat → Nat → Int32 := fun k a => if k = 8 ∧ a < n then (if f 7 a = x a then f 8 a else nI (v + 1)) else f k a
/-- the next version is there -/
def tuG (f : Nat → Nat → Int32) (x : Nat → Int32) (v n : Nat) : Nat → Nat → Int32 := fun k a => if k = 7 ∧ a < 128 then x a else if k = 12 ∧ 128 * (v + 1) ≤ a ∧ a < 128 * (v + 1) + 128 then x (a - 128 * (v + 1)) else tuF f x v n k a
theorem tu_ne {f : Nat → Nat → Int32} {x : Nat → Int32} {v n k : Nat} (h : k ≠ 8) : tuF f x v n k = f k := by
  funext a
  unfold tuF
  rw [if_neg (fun q => h q.1)]
theorem tu_0 (f : Nat → Nat → Int32) (x : Nat → Int32) (v : Nat) : tuF f x v 0 = f := by
  funext k a
  unfold tuF
  rw [if_neg (by omega)]
theorem tu_t {f : Nat → Nat → Int32} {x : Nat → Int32} {v n : Nat} (h : dfF f x n = true) : mup (tuF f x v n) 8 n (nI (v + 1)) = tuF f x v (n + 1) := by
  have hd : ¬ f 7 n = x n := by simpa [dfF] using h
  funext k a
  unfold mup
  by_cases hk : k = 8
  · subst hk
    rw [if_pos rfl]
    by_cases ha : a = n
    · subst ha
      rw [if_pos rfl]
      unfold tuF
      rw [if_pos ⟨rfl, by omega⟩, if_neg hd]
    · rw [if_neg ha]
      unfold tuF
      by_cases hl : a < n
      · have hl1 : a < n + 1 := by omega
        simp [hl, hl1]
      · rw [if_neg (fun q => hl q.2), if_neg (fun q => by omega)]
  · rw [if_neg hk]
    unfold tuF
    rw [if_neg (fun q => hk q.1), if_neg (fun q => hk q.1)]
theorem tu_f {f : Nat → Nat → Int32} {x : Nat → Int32} {v n : Nat} (h : dfF f x n = false) : tuF f x v n = tuF f x v (n + 1) := by
  have hd : f 7 n = x n := by simpa [dfF] using h
  funext k a
  unfold tuF
  by_cases hk : k = 8
  · subst hk
    by_cases ha : a = n
    · subst ha
      rw [if_neg (fun q => by omega), if_pos ⟨rfl, by omega⟩, if_pos hd]
    · by_cases hl : a < n
      · have hl1 : a < n + 1 := by omega
        simp [hl, hl1]
      · rw [if_neg (fun q => hl q.2), if_neg (fun q => by omega)]
  · rw [if_neg (fun q => hk q.1), if_neg (fun q => hk q.1)]
theorem cntF_z {p : Nat → Bool} : ∀ {n : Nat}, cntF p n = 0 → ∀ k, k < n → p k = false
  | 0, _, k, hk => absurd hk (Nat.not_lt_zero _)
  | n + 1, h, k, hk => by
    cases hp : p n with
    | true => rw [cntF_t hp] at h; omega
    | false =>
      rw [cntF_f hp] at h
      by_cases e : k = n
      · rw [e]; exact hp
      · exact cntF_z h k (by omega)
theorem tu_all {f : Nat → Nat → Int32} {x : Nat → Int32} {v : Nat} : ∀ {n : Nat}, cntF (dfF f x) n = 0 → tuF f x v n = f
  | 0, _ => tu_0 f x v
  | n + 1, h => by
    have h0 := cntF_z h n (by omega)
    rw [← tu_f h0]
    rw [cntF_f h0] at h
    exact tu_all h
theorem CRi.tu {f : Nat → Nat → Int32} {nC nL nV : Nat} (h : CRi f nC nL nV) (x : Nat → Int32) {n : Nat} (hn : n ≤ 16 * nL) : CRi (tuF f x nV n) nC nL nV := by
  have E : ∀ k, k ≠ 8 → tuF f x nV n k = f k := fun k hk => tu_ne hk
  obtain ⟨b1, b2, b3, h4, h5, h6, h7, h8, h9, h10, h11, h12⟩ := h
  refine ⟨b1, b2, b3, ?_, ?_, ?_, ?_, ?_, ?_, ?_, ?_, ?_⟩
  · rw [E 4 (by decide)]; exact h4
  · intro k2 hk2 j
    rcases hk2 with rfl | rfl | rfl
    · rw [E 7 (by decide)]; exact h5 7 (by omega) j
    · rw [E 9 (by decide)]; exact h5 9 (by omega) j
    · rw [E 12 (by decide)]; exact h5 12 (by omega) j
  · rw [E 7 (by decide), E 12 (by decide)]; exact h6
  · rw [E 12 (by decide)]; exact h7
  · rw [E 11 (by decide)]; exact h8
  · rw [E 11 (by decide)]; exact h9
  · rw [E 11 (by decide)]; exact h10
  · intro k h1 h2
    unfold tuF
    rw [if_neg (by omega)]
    exact h11 k h1 h2
  · rw [E 10 (by decide)]; exact h12
section CTU
variable {D : va_G} {cA : Nat → ClassId} {A : Nat → Prop} {lab : Nat → Nat} {nm : Nat → Nat → Nat} {rf : Nat → Nat → Option Nat} {f : Nat → Nat → Int32} {nC nL nV : Nat} {H H1 : Heap}
/-- a change is told -/
theorem ch_CRv (h : CRv D cA lab nm rf f nC nL nV H) (hl : CRl A lab nm rf nC nL) (hq : IQ0 D cA nm H) {i k : Nat} (hi : i < nL) (hL : nL ≤ 8) (hC : nC ≤ 12) (hk16 : k < 16) {x : Int32} (hk : ∀ q, q < H.size → q ≠ nm 6 i → H1[q]? = H[q]?) (hn : xI (cA 0) (nm 6 i) 16 (upd (fun b => f 8 (16 * i + b)) k x) H1) : CRv D cA lab nm rf (mup f 8 (16 * i + k) x) nC nL nV H1 ∧ IQ0 D cA nm H1 := by
  have hlL := hl.2.2.2.2.2.2.2.2.1
  have X := CRv.keptX (H1 := H1) (lab' := lab) h hl hq (fun x => x = 100 + i) (by omega) (fun q h1 h2 h3 => hk q h1 (fun e => h3 (by rw [e]; exact (hlL i hi).2.2.2))) (fun _ _ => rfl)
  obtain ⟨h1, h2, h3, h4, h5, h6, h7, h8, h9, h10, h11, h12⟩ := X
  have E : ∀ k2, k2 ≠ 8 → mup f 8 (16 * i + k) x k2 = f k2 := fun k2 k0 => mupN k0
  refine ⟨⟨h1 (by omega), h2 (by omega) (by omega), h3 (by omega) (by omega), h4 (by omega) (by omega), fun j hj => ?_, fun j hj => ?_, fun j hj => ?_, fun j hj => h8 j hj (by omega), fun j hj => ?_, fun j b2 hj hb => ?_, fun v hv => ?_⟩, h12 (by omega) (by omega)⟩
  · rw [E 0 (by decide), E 1 (by decide)]; exact h5 j hj (by omega)
  · rw [E 4 (by decide), E 5 (by decide), E 3 (by decide)]; exact h6 j hj (by omega)
  · rw [hoF_cong (E 11 (by decide))]; exact h7 j hj (by omega)
  · by_cases e : j = i
    · subst e
      refine xI_cong hn (fun q hq9 => ?_)
      unfold upd
      by_cases e1 : q = k
      · rw [if_pos e1, e1, mupA]
      · rw [if_neg e1, mupU (by omega)]
    · refine xI_cong (h9 j hj (by omega)) (fun q hq9 => ?_)
      rw [mupU (by omega)]
  · rw [E 10 (by decide), E 9 (by decide)]; exact h10 j b2 hj hb (by omega)
  · rw [E 12 (by decide)]; exact h11 v hv
/-- the next version -/
theorem vr_CS {x9 : Nat → Int32} {w9 : Nat} (h : CRv D cA lab nm rf (tuF f x9 nV (16 * nL)) nC nL nV H) (hl : CRl A lab nm rf nC nL) (hq : IQ0 D cA nm H) (hL : nL ≤ 8) (hC : nC ≤ 12) {mc : Int32} {dq cap2 : Nat} {f2 : Nat → Option Nat} (hk : ∀ q, q < H.size → q ≠ nm 1 2 → q ≠ nm 0 0 → lab q ≠ 7 → H1[q]? = H[q]?) (hT : xO D (nm 0 0) 7 [.ref (nm 1 0), .ref (nm 1 1), .ref (nm 1 2), .ref (nm 9 0), .ref w9] H1) (hO : xO D (nm 1 2) 0 [.int mc, .ref dq, .int (nI (nV + 1 + 1))] H1) (hQ : xQ (cA 4) dq cap2 f2 H1) (r1 : nV + 1 + 1 ≤ cap2) (r2 : cap2 ≤ 1000) (r3 : ∀ j, j < nV + 1 → f2 j = some (nm 7 j)) (r4 : f2 (nV + 1) = some w9) (hd : lab dq = 7 ∨ H.size ≤ dq) (hA2 : A dq) (hw : ENT D cA lab w9 x9 H) : CS D cA A (nm 12 0) (nm 0 0) (tuG f x9 nV (16 * nL)) nC nL (nV + 1) H1 := by
  have hs : ∀ x, x < H.size → lu lab dq 7 x = lab x := fun x hx => by
    by_cases e : x = dq
    · subst e
      rw [lu_at]
      rcases hd with hd | hd
      · exact hd.symm
      · omega
    · rw [lu_un e]
  have hl2 := hl.relab h hq (lab' := lu lab dq 7) (lu_A hl.1 hA2) hs
  have hkl : ∀ q, q < H.size → lab q ≠ 0 → ¬ (lab q = 1 ∨ lab q = 4 ∨ lab q = 7) → H1[q]? = H[q]? := fun q h1 h2 h3 => hk q h1 (fun e => h3 (Or.inr (Or.inl (by rw [e]; exact hl.2.2.2.2.1)))) (fun e => h3 (Or.inl (by rw [e]; exact hl.2.1))) (fun e => h3 (Or.inr (Or.inr e)))
  have X := CRv.keptX (H1 := H1) (lab' := lu lab dq 7) h hl hq (fun x => x = 1 ∨ x = 4 ∨ x = 7) (by omega) hkl hs
  obtain ⟨h1, h2, h3, h4, h5, h6, h7, h8, h9, h10, h11, h12⟩ := X
  have hw2 : ENT D cA (lu lab dq 7) w9 x9 H1 := (hw.relab hs).kept (fun q h0 e => hkl q h0 (by rw [← hs q h0]; omega) (by rw [← hs q h0]; omega))
  have G : ∀ k, k ≠ 7 → k ≠ 12 → tuG f x9 nV (16 * nL) k = tuF f x9 nV (16 * nL) k := fun k k1 k2 => by
    funext a
    unfold tuG
    rw [if_neg (fun q => k1 q.1), if_neg (fun q => k2 q.1)]
  have N : ∀ k2, k2 ≠ 7 → mup nm 7 (nV + 1) w9 k2 = nm k2 := fun k2 k0 => mupN k0
  have N7 : ∀ j, j ≠ nV + 1 → mup nm 7 (nV + 1) w9 7 j = nm 7 j := fun j hj => mupU hj
  refine ⟨lu lab dq 7, mup nm 7 (nV + 1) w9, rf, ⟨?_, ?_, ?_, ?_, fun j hj => ?_, fun j hj => ?_, fun j hj => ?_, fun j hj => ?_, fun j hj => ?_, fun j b2 hj hb => ?_, fun v hv => ?_⟩, ?_, ?_, by rw [N 12 (by decide)], by rw [N 0 (by decide)]⟩
  · rw [N 0 (by decide), N 1 (by decide), N 9 (by decide), mupA]; exact hT
  · rw [N 12 (by decide), N 1 (by decide), N 2 (by decide)]; exact h2 (by omega) (by omega)
  · rw [N 12 (by decide), N 1 (by decide), N 3 (by decide)]; exact h3 (by omega) (by omega)
  · rw [N 12 (by decide), N 1 (by decide)]
    refine ⟨mc, dq, cap2, f2, hO, fun _ => hQ, r1, r2, fun j hj => ?_, fun _ => lu_at, fun e => by omega⟩
    by_cases e : j = nV + 1
    · rw [e, r4, mupA]
    · rw [r3 j (by omega), N7 j e]
  · rw [N 2 (by decide), G 0 (by decide) (by decide), G 1 (by decide) (by decide)]; exact h5 j hj (by omega)
  · rw [N 3 (by decide), N 4 (by decide), N 5 (by decide), N 6 (by decide), G 4 (by decide) (by decide), G 5 (by decide) (by decide), G 3 (by decide) (by decide)]; exact h6 j hj (by omega)
  · rw [N 4 (by decide), hoF_cong (G 11 (by decide) (by decide))]; exact h7 j hj (by omega)
  · rw [N 5 (by decide)]; exact h8 j hj (by omega)
  · rw [N 6 (by decide), G 8 (by decide) (by decide)]; exact h9 j hj (by omega)
  · rw [N 10 (by decide), N 11 (by decide), G 10 (by decide) (by decide), G 9 (by decide) (by decide)]; exact h10 j b2 hj hb (by omega)
  · by_cases e : v = nV + 1
    · subst e
      rw [mupA]
      refine hw2.cong (fun k hk => ?_)
      unfold tuG
      rw [if_neg (fun q => by omega), if_pos ⟨rfl, by omega, by omega⟩, Nat.add_sub_cancel_left]
    · rw [N7 v e]
      refine (h11 v (by omega)).cong (fun k hk => ?_)
      unfold tuG
      rw [if_neg (fun q => by omega), if_neg (fun q => by omega)]
  · obtain ⟨l0, l1, l2, l3, l4, l8, l9, lC, lL, lR⟩ := hl2
    refine ⟨l0, ?_, ?_, ?_, ?_, ?_, ?_, fun j hj => ?_, fun j hj => ?_, fun a b ha hb hne => ?_⟩
    · rw [N 0 (by decide)]; exact l1
    · rw [N 1 (by decide)]; exact l2
    · rw [N 1 (by decide)]; exact l3
    · rw [N 1 (by decide)]; exact l4
    · rw [N 9 (by decide)]; exact l8
    · rw [N 9 (by decide)]; exact l9
    · rw [N 2 (by decide)]; exact lC j hj
    · rw [N 3 (by decide), N 4 (by decide), N 5 (by decide), N 6 (by decide)]; exact lL j hj
    · rw [N 10 (by decide), N 11 (by decide)]; exact lR a b ha hb hne
  · obtain ⟨ic, en, wr, lo, uw, kn, oc, fa, g, r1, r2⟩ := h12 (by omega) (by omega)
    refine ⟨ic, en, wr, lo, uw, kn, oc, fa, g, ?_, ?_⟩
    · rw [N 9 (by decide)]; exact r1
    · rw [N 9 (by decide)]; exact r2
end CTU
theorem nI_le0 {n : Nat} (h : n < 65536) (q : nI n ≤ 0) : n = 0 := by
  have h1 := (nI_leI (a := n) (b := 0) (by omega) (by omega)).mp q
  omega
