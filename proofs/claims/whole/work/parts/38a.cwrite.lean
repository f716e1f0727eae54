/-! the class's state behind each kind of write -/
theorem mupN {α : Type} {f : Nat → Nat → α} {k j i : Nat} {x : α} (h : i ≠ k) : mup f k j x i = f i := by
  funext a
  unfold mup
  rw [if_neg h]
theorem mupA {α : Type} {f : Nat → Nat → α} {k j : Nat} {x : α} : mup f k j x k j = x := by
  unfold mup
  rw [if_pos rfl, if_pos rfl]
theorem mupU {α : Type} {f : Nat → Nat → α} {k j i a : Nat} {x : α} (h : a ≠ j) : mup f k j x i a = f i a := by
  unfold mup
  by_cases hk : i = k
  · subst hk
    rw [if_pos rfl, if_neg h]
  · rw [if_neg hk]
theorem hoF_cong {f g : Nat → Nat → Int32} (h : g 11 = f 11) (j : Nat) : hoF g j = hoF f j := by
  funext i
  unfold hoF
  rw [h]
section CSW
variable {D : va_G} {cA : Nat → ClassId} {A : Nat → Prop} {lab : Nat → Nat} {nm : Nat → Nat → Nat} {rf : Nat → Nat → Option Nat} {f : Nat → Nat → Int32} {nC nL nV : Nat} {H H1 : Heap}
theorem mv_CS (h : CRv D cA lab nm rf f nC nL nV H) (hl : CRl A lab nm rf nC nL) (hq : IQ0 D cA nm H) {c : Nat} (hc : c < nC) (hC : nC ≤ 12) {a b : Int32} (hk : ∀ q, q < H.size → q ≠ nm 2 c → H1[q]? = H[q]?) (hn : xO D (nm 2 c) 1 [.int a, .int b] H1) : CS D cA A (nm 12 0) (nm 0 0) (mup (mup f 0 c a) 1 c b) nC nL nV H1 := by
  have hlC := hl.2.2.2.2.2.2.2.1
  have X := CRv.keptX (H1 := H1) (lab' := lab) h hl hq (fun x => x = 20 + c) (by omega) (fun q h1 h2 h3 => hk q h1 (fun e => h3 (by rw [e]; exact hlC c hc))) (fun _ _ => rfl)
  obtain ⟨h1, h2, h3, h4, h5, h6, h7, h8, h9, h10, h11, h12⟩ := X
  have E : ∀ k, k ≠ 0 → k ≠ 1 → mup (mup f 0 c a) 1 c b k = f k := fun k k0 k1 => by rw [mupN k1, mupN k0]
  refine ⟨lab, nm, rf, ⟨h1 (by omega), h2 (by omega) (by omega), h3 (by omega) (by omega), h4 (by omega) (by omega), fun j hj => ?_, fun j hj => ?_, fun j hj => ?_, fun j hj => h8 j hj (by omega), fun j hj => ?_, fun j b2 hj hb => ?_, fun v hv => ?_⟩, hl, h12 (by omega) (by omega), rfl, rfl⟩
  · by_cases e : j = c
    · subst e
      rw [mupA, mupN (by omega), mupA]
      exact hn
    · rw [mupU e, mupU e, mupU e, mupU e]
      exact h5 j hj (by omega)
  · rw [E 4 (by decide) (by decide), E 5 (by decide) (by decide), E 3 (by decide) (by decide)]; exact h6 j hj (by omega)
  · rw [hoF_cong (E 11 (by decide) (by decide))]; exact h7 j hj (by omega)
  · rw [E 8 (by decide) (by decide)]; exact h9 j hj (by omega)
  · rw [E 10 (by decide) (by decide), E 9 (by decide) (by decide)]; exact h10 j b2 hj hb (by omega)
  · rw [E 12 (by decide) (by decide)]; exact h11 v hv
theorem rk_CS (h : CRv D cA lab nm rf f nC nL nV H) (hl : CRl A lab nm rf nC nL) (hq : IQ0 D cA nm H) {i : Nat} (hi : i < nL) (hL : nL ≤ 8) (hC : nC ≤ 12) {x : Int32} (hk : ∀ q, q < H.size → q ≠ nm 3 i → H1[q]? = H[q]?) (hn : xO D (nm 3 i) 5 (lyV (nI i) (f 4 i) (f 5 i) x (nm 4 i) (nm 5 i) (nm 6 i)) H1) : CS D cA A (nm 12 0) (nm 0 0) (mup f 3 i x) nC nL nV H1 := by
  have hlL := hl.2.2.2.2.2.2.2.2.1
  have X := CRv.keptX (H1 := H1) (lab' := lab) h hl hq (fun x => x = 40 + i) (by omega) (fun q h1 h2 h3 => hk q h1 (fun e => h3 (by rw [e]; exact (hlL i hi).1))) (fun _ _ => rfl)
  obtain ⟨h1, h2, h3, h4, h5, h6, h7, h8, h9, h10, h11, h12⟩ := X
  have E : ∀ k, k ≠ 3 → mup f 3 i x k = f k := fun k k0 => mupN k0
  refine ⟨lab, nm, rf, ⟨h1 (by omega), h2 (by omega) (by omega), h3 (by omega) (by omega), h4 (by omega) (by omega), fun j hj => ?_, fun j hj => ?_, fun j hj => ?_, fun j hj => h8 j hj (by omega), fun j hj => ?_, fun j b2 hj hb => ?_, fun v hv => ?_⟩, hl, h12 (by omega) (by omega), rfl, rfl⟩
  · rw [E 0 (by decide), E 1 (by decide)]; exact h5 j hj (by omega)
  · by_cases e : j = i
    · subst e
      rw [mupA, E 4 (by decide), E 5 (by decide)]
      exact hn
    · rw [mupU e, mupU e, mupU e]
      exact h6 j hj (by omega)
  · rw [hoF_cong (E 11 (by decide))]; exact h7 j hj (by omega)
  · rw [E 8 (by decide)]; exact h9 j hj (by omega)
  · rw [E 10 (by decide), E 9 (by decide)]; exact h10 j b2 hj hb (by omega)
  · rw [E 12 (by decide)]; exact h11 v hv
/-- a holder's place in the model's row of locks -/
def hoA (i k : Nat) : Nat := if k < 16 then 16 * i + k else 128 + i
theorem lk_CRv (h : CRv D cA lab nm rf f nC nL nV H) (hl : CRl A lab nm rf nC nL) (hq : IQ0 D cA nm H) {i k : Nat} (hi : i < nL) (hL : nL ≤ 8) (hC : nC ≤ 12) (hk17 : k < 17) {x : Int32} (hk : ∀ q, q < H.size → q ≠ nm 4 i → H1[q]? = H[q]?) (hn : xI (cA 0) (nm 4 i) 17 (va_up (hoF f i) k x) H1) : CRv D cA lab nm rf (mup f 11 (hoA i k) x) nC nL nV H1 ∧ IQ0 D cA nm H1 := by
  have hlL := hl.2.2.2.2.2.2.2.2.1
  have X := CRv.keptX (H1 := H1) (lab' := lab) h hl hq (fun x => x = 60 + i) (by omega) (fun q h1 h2 h3 => hk q h1 (fun e => h3 (by rw [e]; exact (hlL i hi).2.1))) (fun _ _ => rfl)
  obtain ⟨h1, h2, h3, h4, h5, h6, h7, h8, h9, h10, h11, h12⟩ := X
  have E : ∀ k2, k2 ≠ 11 → mup f 11 (hoA i k) x k2 = f k2 := fun k2 k0 => mupN k0
  refine ⟨⟨h1 (by omega), h2 (by omega) (by omega), h3 (by omega) (by omega), h4 (by omega) (by omega), fun j hj => ?_, fun j hj => ?_, fun j hj => ?_, fun j hj => h8 j hj (by omega), fun j hj => ?_, fun j b2 hj hb => ?_, fun v hv => ?_⟩, h12 (by omega) (by omega)⟩
  · rw [E 0 (by decide), E 1 (by decide)]; exact h5 j hj (by omega)
  · rw [E 4 (by decide), E 5 (by decide), E 3 (by decide)]; exact h6 j hj (by omega)
  · by_cases e : j = i
    · subst e
      refine xI_cong hn (fun q hq9 => ?_)
      unfold va_up hoF hoA
      unfold mup
      by_cases e1 : q = k
      · subst e1
        by_cases e2 : q < 16
        · simp [e2]
        · simp [e2]
      · by_cases e2 : q < 16
        · by_cases e3 : k < 16
          · simp [e1, e2, e3]
          · have e4 : ¬ 16 * j + q = 128 + j := by omega
            simp [e1, e2, e3, e4]
        · by_cases e3 : k < 16
          · have e4 : ¬ 128 + j = 16 * j + k := by omega
            simp [e1, e2, e3, e4]
          · omega
    · refine xI_cong (h7 j hj (by omega)) (fun q hq9 => ?_)
      unfold hoF
      by_cases e2 : q < 16
      · rw [if_pos e2, if_pos e2]
        refine (mupU ?_).symm
        unfold hoA
        split <;> omega
      · rw [if_neg e2, if_neg e2]
        refine (mupU ?_).symm
        unfold hoA
        split <;> omega
  · rw [E 8 (by decide)]; exact h9 j hj (by omega)
  · rw [E 10 (by decide), E 9 (by decide)]; exact h10 j b2 hj hb (by omega)
  · rw [E 12 (by decide)]; exact h11 v hv
/-- a rollout goes -/
theorem ab_CS (h : CRv D cA lab nm rf f nC nL nV H) (hl : CRl A lab nm rf nC nL) (hq : IQ0 D cA nm H) {i k : Nat} (hi : i < nL) (hL : nL ≤ 8) (hC : nC ≤ 12) (hk16 : k < 16) (hk : ∀ q, q < H.size → q ≠ nm 5 i → H1[q]? = H[q]?) (hn : xQ (cA 3) (nm 5 i) 16 (va_up (rf i) k none) H1) : CRv D cA lab nm (fun a b => if a = i ∧ b = k then none else rf a b) (mup f 10 (16 * i + k) (-1)) nC nL nV H1 ∧ CRl A lab nm (fun a b => if a = i ∧ b = k then none else rf a b) nC nL ∧ IQ0 D cA nm H1 := by
  have hlL := hl.2.2.2.2.2.2.2.2.1
  have X := CRv.keptX (H1 := H1) (lab' := lab) h hl hq (fun x => x = 80 + i) (by omega) (fun q h1 h2 h3 => hk q h1 (fun e => h3 (by rw [e]; exact (hlL i hi).2.2.1))) (fun _ _ => rfl)
  obtain ⟨h1, h2, h3, h4, h5, h6, h7, h8, h9, h10, h11, h12⟩ := X
  have E : ∀ k2, k2 ≠ 10 → mup f 10 (16 * i + k) (-1) k2 = f k2 := fun k2 k0 => mupN k0
  refine ⟨⟨h1 (by omega), h2 (by omega) (by omega), h3 (by omega) (by omega), h4 (by omega) (by omega), fun j hj => ?_, fun j hj => ?_, fun j hj => ?_, fun j hj => ?_, fun j hj => ?_, fun j b2 hj hb => ?_, fun v hv => ?_⟩, ?_, h12 (by omega) (by omega)⟩
  · rw [E 0 (by decide), E 1 (by decide)]; exact h5 j hj (by omega)
  · rw [E 4 (by decide), E 5 (by decide), E 3 (by decide)]; exact h6 j hj (by omega)
  · rw [hoF_cong (E 11 (by decide))]; exact h7 j hj (by omega)
  · by_cases e : j = i
    · subst e
      refine xQ_cong hn (fun q hq9 => ?_)
      unfold va_up
      by_cases e1 : q = k
      · simp [e1]
      · simp [e1]
    · refine xQ_cong (h8 j hj (by omega)) (fun q hq9 => ?_)
      simp [e]
  · rw [E 8 (by decide)]; exact h9 j hj (by omega)
  · by_cases e : j = i ∧ b2 = k
    · obtain ⟨e1, e2⟩ := e
      subst e1; subst e2
      left
      exact ⟨by simp, mupA⟩
    · rw [E 9 (by decide), mupU (show 16 * j + b2 ≠ 16 * i + k by omega)]
      simp only [if_neg e]
      exact h10 j b2 hj hb (by omega)
  · rw [E 12 (by decide)]; exact h11 v hv
  · obtain ⟨l0, l1, l2, l3, l4, l8, l9, lC, lL, lR⟩ := hl
    refine ⟨l0, l1, l2, l3, l4, l8, l9, lC, lL, fun a b ha hb hne => lR a b ha hb (fun e => hne ?_)⟩
    by_cases e2 : a = i ∧ b = k
    · simp [e2]
    · simp only [if_neg e2]; exact e
end CSW
/-! what the class keeps true of its state, behind each kind of write -/
theorem CRi.cong {f g : Nat → Nat → Int32} {nC nL nV : Nat} (h : CRi f nC nL nV) (e : ∀ k, k ∈ [4, 7, 8, 9, 10, 11, 12] → g k = f k) : CRi g nC nL nV := by
  obtain ⟨b1, b2, b3, h4, h5, h6, h7, h8, h9, h10, h11, h12⟩ := h
  refine ⟨b1, b2, b3, ?_, ?_, ?_, ?_, ?_, ?_, ?_, ?_, ?_⟩
  · rw [e 4 (by decide)]; exact h4
  · intro k hk j
    rcases hk with rfl | rfl | rfl
    · rw [e 7 (by decide)]; exact h5 7 (by omega) j
    · rw [e 9 (by decide)]; exact h5 9 (by omega) j
    · rw [e 12 (by decide)]; exact h5 12 (by omega) j
  · rw [e 7 (by decide), e 12 (by decide)]; exact h6
  · rw [e 12 (by decide)]; exact h7
  · rw [e 11 (by decide)]; exact h8
  · rw [e 11 (by decide)]; exact h9
  · rw [e 11 (by decide)]; exact h10
  · rw [e 8 (by decide)]; exact h11
  · rw [e 10 (by decide)]; exact h12
theorem CRi.of {f g : Nat → Nat → Int32} {nC nL nV : Nat} (h : CRi f nC nL nV) (e : ∀ k, k ∈ [4, 7, 8, 9, 12] → g k = f k) (h8 : ∀ k, 0 ≤ g 11 k) (h9 : ∀ k, 16 * nL ≤ k → k < 128 → g 11 k = 0) (h10 : ∀ j, nL ≤ j → j < 8 → g 11 (128 + j) = 0) (h12 : ∀ k, 16 * nL ≤ k → k < 128 → g 10 k = -1) : CRi g nC nL nV := by
  obtain ⟨b1, b2, b3, h4, h5, h6, h7, -, -, -, h11, -⟩ := h
  refine ⟨b1, b2, b3, ?_, ?_, ?_, ?_, h8, h9, h10, ?_, h12⟩
  · rw [e 4 (by decide)]; exact h4
  · intro k hk j
    rcases hk with rfl | rfl | rfl
    · rw [e 7 (by decide)]; exact h5 7 (by omega) j
    · rw [e 9 (by decide)]; exact h5 9 (by omega) j
    · rw [e 12 (by decide)]; exact h5 12 (by omega) j
  · rw [e 7 (by decide), e 12 (by decide)]; exact h6
  · rw [e 12 (by decide)]; exact h7
  · rw [e 8 (by decide)]; exact h11
theorem CRi.mv {f : Nat → Nat → Int32} {nC nL nV : Nat} (h : CRi f nC nL nV) (c : Nat) (a b : Int32) : CRi (mup (mup f 0 c a) 1 c b) nC nL nV := h.cong (fun k hk => by
  have h0 : k ≠ 0 := fun q => by rw [q] at hk; revert hk; decide
  have h1 : k ≠ 1 := fun q => by rw [q] at hk; revert hk; decide
  rw [mupN h1, mupN h0])
theorem CRi.rk {f : Nat → Nat → Int32} {nC nL nV : Nat} (h : CRi f nC nL nV) (i : Nat) (x : Int32) : CRi (mup f 3 i x) nC nL nV := h.cong (fun k hk => by
  have h1 : k ≠ 3 := fun q => by rw [q] at hk; revert hk; decide
  rw [mupN h1])
theorem CRi.lk {f : Nat → Nat → Int32} {nC nL nV : Nat} (h : CRi f nC nL nV) {i k : Nat} (hi : i < nL) {x : Int32} (hx : 0 ≤ x) : CRi (mup f 11 (hoA i k) x) nC nL nV := by
  have h2 := h.2.1
  obtain ⟨-, -, -, -, -, -, -, h8, h9, h10, -, h12⟩ := id h
  refine h.of (fun k2 hk => mupN (fun q => by rw [q] at hk; revert hk; decide)) (fun a => ?_) (fun a h1 h2 => ?_) (fun a h1 h2 => ?_) (fun a h1 h2 => ?_)
  · by_cases e : a = hoA i k
    · rw [e, mupA]; exact hx
    · rw [mupU e]; exact h8 a
  · rw [mupU (show a ≠ hoA i k by unfold hoA; split <;> omega)]; exact h9 a h1 h2
  · rw [mupU (show 128 + a ≠ hoA i k by unfold hoA; split <;> omega)]; exact h10 a h1 h2
  · rw [mupN (by decide)]; exact h12 a h1 h2
theorem CRi.ab {f : Nat → Nat → Int32} {nC nL nV : Nat} (h : CRi f nC nL nV) (k : Nat) (x : Int32) (hk : k < 16 * nL) : CRi (mup f 10 k x) nC nL nV := by
  obtain ⟨-, -, -, -, -, -, -, h8, h9, h10, -, h12⟩ := id h
  refine h.of (fun k2 hk => mupN (fun q => by rw [q] at hk; revert hk; decide)) (fun a => ?_) (fun a h1 h2 => ?_) (fun a h1 h2 => ?_) (fun a h1 h2 => ?_)
  · rw [mupN (by decide)]; exact h8 a
  · rw [mupN (by decide)]; exact h9 a h1 h2
  · rw [mupN (by decide)]; exact h10 a h1 h2
  · rw [mupU (by omega)]; exact h12 a h1 h2
/-! locks: the model's count and bar in the class's words -/
theorem he_lt {x o : Int32} (h : 0 ≤ x) : heF x o = (decide (0 < x) && decide (x ≠ o)) := by
  have e : 0 < x ↔ ¬ x = 0 := by
    rw [Int32.lt_iff_toInt_lt, ← Int32.toInt_inj]
    have h0 := Int32.le_iff_toInt_le.mp h
    have z : (0 : Int32).toInt = 0 := by decide
    rw [z] at h0 ⊢
    omega
  unfold heF
  simp only [e, ne_eq]
theorem anyF_cong {p q : Nat → Bool} : ∀ {n : Nat}, (∀ k, k < n → p k = q k) → anyF p n = anyF q n
  | 0, _ => rfl
  | n + 1, h => by rw [anyF, anyF, anyF_cong (fun k hk => h k (by omega)), h n (by omega)]
theorem bar_all {f : Nat → Int32} (hp : ∀ k, 0 ≤ f k) (a : Nat) (o : Int32) : ∀ n, barF f a (-1) o n = (heF (f (128 + a)) o || anyF (fun k => heF (f (16 * a + k)) o) n)
  | 0 => by rw [barF, anyF, he_lt (hp _), Bool.or_false]
  | n + 1 => by
    rw [barF, anyF, bar_all hp a o n, he_lt (hp (16 * a + n)), decide_eq_true (rfl : (-1 : Int32) = -1), Bool.true_or, Bool.and_true, Bool.or_assoc]
theorem bar_one {f : Nat → Int32} (hp : ∀ k, 0 ≤ f k) (a : Nat) (o : Int32) {j : Nat} (hj : j < 16) : ∀ n, n ≤ 16 → barF f a (nI j) o n = (heF (f (128 + a)) o || (decide (j < n) && heF (f (16 * a + j)) o))
  | 0, _ => by rw [barF, he_lt (hp _)]; simp
  | n + 1, hn => by
    rw [barF, bar_one hp a o hj n (by omega), he_lt (hp (16 * a + j)), he_lt (hp (128 + a)), decide_eq_false (nI_m1 (n := j) (by omega)), Bool.false_or]
    by_cases e : j = n
    · subst e
      simp
    · have e2 : ¬ nI j = nI n := fun q => e (by have h1 := nI_clamp (n := j) (by omega); have h2 := nI_clamp (n := n) (by omega); rw [q, h2] at h1; omega)
      have e3 : (j < n + 1) = (j < n) := by simp only [eq_iff_iff]; omega
      simp [e2, e3]
theorem cb_bar {f : Nat → Nat → Int32} (hp : ∀ k, 0 ≤ f 11 k) {i : Nat} {v o : Int32} (hv : v = -1 ∨ okS v = true) : cbF (hoF f i) v o = !barF (f 11) i v o 16 := by
  have h16 : hoF f i 16 = f 11 (128 + i) := by unfold hoF; rw [if_neg (by omega)]
  have hlt : ∀ j, j < 16 → hoF f i j = f 11 (16 * i + j) := fun j hj => by unfold hoF; rw [if_pos hj]
  unfold cbF
  by_cases e : v = -1
  · subst e
    rw [if_pos rfl, bar_all hp, anyF, h16, anyF_cong (q := fun k => heF (f 11 (16 * i + k)) o) (fun k hk => by rw [hlt k hk]), Bool.or_comm]
  · rw [if_neg e]
    obtain ⟨j, hj, rfl⟩ := okS_of (hv.resolve_left e)
    rw [ix_nI (by omega), bar_one hp i o hj 16 (Nat.le_refl _), h16, hlt j hj, decide_eq_true hj, Bool.true_and]
theorem cntF_add (p : Nat → Bool) (n : Nat) : ∀ m, cntF p (n + m) = cntF p n + cntF (fun k => p (n + k)) m
  | 0 => rfl
  | m + 1 => by rw [← Nat.add_assoc, cntF, cntF, cntF_add p n m, Nat.add_assoc]
theorem cnt_17 {f : Nat → Nat → Int32} (i : Nat) (o : Int32) : cntF (fun k => decide (hoF f i k = o)) 17 = cntF (fun k => decide (f 11 (16 * i + k) = o)) 16 + (if f 11 (128 + i) = o then 1 else 0) := by
  have h16 : hoF f i 16 = f 11 (128 + i) := by unfold hoF; rw [if_neg (by omega)]
  rw [show (17 : Nat) = 16 + 1 from rfl, cntF, cntF_cong (q := fun k => decide (f 11 (16 * i + k) = o)) (fun k hk => by unfold hoF; rw [if_pos hk]), h16]
  simp
theorem lks_all {f : Nat → Nat → Int32} (o : Int32) : ∀ n, cntF (fun k => decide (f 11 k = o)) (16 * n) + cntF (fun k => decide (f 11 (128 + k) = o)) n = smF (fun j => cntF (fun k => decide (hoF f j k = o)) 17) n
  | 0 => rfl
  | n + 1 => by
    have a1 : cntF (fun k => decide (f 11 k = o)) (16 * n + 16) = cntF (fun k => decide (f 11 k = o)) (16 * n) + cntF (fun k => decide (f 11 (16 * n + k) = o)) 16 := cntF_add _ (16 * n) 16
    have a2 : cntF (fun k => decide (f 11 (128 + k) = o)) (n + 1) = cntF (fun k => decide (f 11 (128 + k) = o)) n + (if f 11 (128 + n) = o then 1 else 0) := by rw [cntF]; simp
    have a3 := cnt_17 (f := f) n o
    have a4 := lks_all (f := f) o n
    rw [show 16 * (n + 1) = 16 * n + 16 by omega, smF, a1, a2, a3, ← a4]
    omega
theorem smF_tail {g : Nat → Nat} {n : Nat} : ∀ m, (∀ j, n ≤ j → j < n + m → g j = 0) → smF g (n + m) = smF g n
  | 0, _ => rfl
  | m + 1, h => by
    rw [← Nat.add_assoc, smF, smF_tail m (fun j h1 h2 => h j h1 (by omega)), h (n + m) (by omega) (by omega), Nat.add_zero]
theorem cntF_no {p : Nat → Bool} : ∀ {n : Nat}, (∀ k, k < n → p k = false) → cntF p n = 0
  | 0, _ => rfl
  | n + 1, h => by rw [cntF_f (h n (by omega)), cntF_no (fun k hk => h k (by omega))]
theorem lks_sm {f : Nat → Nat → Int32} {nC nL nV : Nat} (hi : CRi f nC nL nV) {o : Int32} (ho : ¬ o = 0) : lksF (f 11) o = smF (fun j => cntF (fun k => decide (hoF f j k = o)) 17) nL := by
  obtain ⟨-, b2, -, -, -, -, -, -, h9, h10, -, -⟩ := hi
  have h8 := lks_all (f := f) o 8
  have e : lksF (f 11) o = cntF (fun k => decide (f 11 k = o)) (16 * 8) + cntF (fun k => decide (f 11 (128 + k) = o)) 8 := cntF_add _ 128 8
  rw [e, h8]
  obtain ⟨d, hd⟩ : ∃ d, 8 = nL + d := ⟨8 - nL, by omega⟩
  rw [hd]
  refine smF_tail d (fun j j1 j2 => cntF_no (fun k hk => decide_eq_false (fun q => ho ?_)))
  rw [← q]
  unfold hoF
  split
  · exact h9 _ (by omega) (by omega)
  · exact h10 _ (by omega) (by omega)
