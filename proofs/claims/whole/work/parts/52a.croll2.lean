/-! going back to a version; a greater share: the words -/
theorem anyF_tail {p : Nat → Bool} {n : Nat} : ∀ m, (∀ j, n ≤ j → j < n + m → p j = false) → anyF p (n + m) = anyF p n
  | 0, _ => rfl
  | m + 1, h => by
    rw [← Nat.add_assoc, anyF, anyF_tail m (fun j h1 h2 => h j h1 (by omega)), h (n + m) (by omega) (by omega), Bool.or_false]
theorem cntF_tail {p : Nat → Bool} {n : Nat} : ∀ m, (∀ j, n ≤ j → j < n + m → p j = false) → cntF p (n + m) = cntF p n
  | 0, _ => rfl
  | m + 1, h => by
    rw [← Nat.add_assoc, cntF_f (h (n + m) (by omega) (by omega)), cntF_tail m (fun j h1 h2 => h j h1 (by omega))]
theorem dif_0 {f : Nat → Nat → Int32} {nC nL nV v k : Nat} (hi : CRi f nC nL nV) (hv : v ≤ nV) (h1 : 16 * nL ≤ k) (h2 : k < 128) : f 12 (128 * v + k) = f 7 k := by
  obtain ⟨-, -, -, -, -, i6, i7, -⟩ := hi
  rw [i7 v k hv h1 h2, i6 k h2, i7 nV k (Nat.le_refl _) h1 h2]
theorem df_eq {f : Nat → Nat → Int32} {v k : Nat} : difF f v k = dfF f (fun k => f 12 (128 * v + k)) k := by
  unfold difF dfF
  rw [Bool.eq_iff_iff]
  simp only [decide_eq_true_eq, Bool.not_eq_true', decide_eq_false_iff_not]
  exact ⟨fun h q => h q.symm, fun h q => h q.symm⟩
theorem roll_bar {f : Nat → Nat → Int32} {nC nL nV v : Nat} {o : Int32} (hi : CRi f nC nL nV) (hv : v ≤ nV) : anyF (barR f v o) 128 = anyF (barC f (fun k => f 12 (128 * v + k)) o) (16 * nL) := by
  have b2 := hi.2.1
  obtain ⟨d, hd⟩ : ∃ d, 128 = 16 * nL + d := ⟨128 - 16 * nL, by omega⟩
  have h8 := hi.2.2.2.2.2.2.2.1
  have ht := anyF_tail (p := barR f v o) (n := 16 * nL) d (fun j h1 h2 => by
    unfold barR difF
    rw [dif_0 hi hv h1 (by omega)]
    simp)
  rw [← hd] at ht
  rw [ht]
  refine anyF_cong (fun k hk => ?_)
  have e : 16 * (k / 16) + k % 16 = k := by omega
  have h9 := frF_wr (f := f) h8 (i := k / 16) (j := k % 16) (by omega) o
  rw [e] at h9
  unfold barR barC
  rw [h9, df_eq, Bool.not_not]
  unfold dfF
  simp
theorem roll_cnt {f : Nat → Nat → Int32} {nC nL nV v : Nat} (hi : CRi f nC nL nV) (hv : v ≤ nV) : cntF (difF f v) 128 = cntF (dfF f (fun k => f 12 (128 * v + k))) (16 * nL) := by
  have b2 := hi.2.1
  obtain ⟨d, hd⟩ : ∃ d, 128 = 16 * nL + d := ⟨128 - 16 * nL, by omega⟩
  have ht := cntF_tail (p := difF f v) (n := 16 * nL) d (fun j h1 h2 => by
    unfold difF
    rw [dif_0 hi hv h1 (by omega)]
    simp)
  rw [← hd] at ht
  rw [ht]
  exact cntF_cong (fun k _ => df_eq)
theorem roll_eq {f : Nat → Nat → Int32} {nC nL nV v : Nat} (hi : CRi f nC nL nV) (hv : v ≤ nV) : tuG f (fun k => f 12 (128 * v + k)) nV (16 * nL) = (rollS (mS f) nV v).2.1 := by
  have b2 := hi.2.1
  have hS : ∀ k j, (sg (rbS (mS f) nV v 128) 13 (nI (nV + 1))).2.1 k j = if k = 8 ∧ j < 128 then (if f 12 (128 * v + j) = f 7 j then f 8 j else nI (nV + 1)) else if k = 7 ∧ j < 128 then f 12 (128 * v + j) else f k j := fun _ _ => rfl
  unfold rollS
  generalize sg (rbS (mS f) nV v 128) 13 (nI (nV + 1)) = S at hS ⊢
  funext a b
  rw [cp_row, hS, hS]
  unfold tuG
  by_cases h7 : a = 7
  · subst h7
    have c0 : ¬ (7 = 12 ∧ 128 * (nV + 1) ≤ b ∧ b < 128 * (nV + 1) + 128) := fun q => by omega
    have c1 : ¬ (7 = 8 ∧ b < 128) := fun q => by omega
    rw [if_neg c0, if_neg c0, if_neg c1]
    by_cases hb : b < 128
    · rw [if_pos ⟨rfl, hb⟩, if_pos ⟨rfl, hb⟩]
    · rw [if_neg (fun q => hb q.2), if_neg (fun q => hb q.2), tu_ne (by decide)]
  · rw [if_neg (fun q => h7 q.1), if_neg (fun q : a = 7 ∧ b < 128 => h7 q.1)]
    by_cases h12 : a = 12
    · subst h12
      by_cases hb : 128 * (nV + 1) ≤ b ∧ b < 128 * (nV + 1) + 128
      · have c1 : ¬ (7 = 8 ∧ b - 128 * (nV + 1) < 128) := fun q => by omega
        rw [if_pos ⟨rfl, hb⟩, if_pos ⟨rfl, hb⟩, if_neg c1, if_pos ⟨rfl, by omega⟩]
      · have c1 : ¬ (12 = 8 ∧ b < 128) := fun q => by omega
        rw [if_neg (fun q => hb q.2), if_neg (fun q => hb q.2), if_neg c1, tu_ne (by decide)]
    · rw [if_neg (fun q => h12 q.1), if_neg (fun q : a = 12 ∧ 128 * (nV + 1) ≤ b ∧ b < 128 * (nV + 1) + 128 => h12 q.1)]
      by_cases h8 : a = 8
      · subst h8
        unfold tuF
        by_cases hb : b < 128
        · rw [if_pos (⟨rfl, hb⟩ : 8 = 8 ∧ b < 128)]
          by_cases hn : b < 16 * nL
          · rw [if_pos ⟨rfl, hn⟩]
            by_cases e : f 7 b = f 12 (128 * v + b)
            · rw [if_pos e, if_pos e.symm]
            · rw [if_neg e, if_neg (fun q => e q.symm)]
          · rw [if_neg (fun q => hn q.2), if_pos (dif_0 hi hv (by omega) hb)]
        · rw [if_neg (fun q : 8 = 8 ∧ b < 128 => hb q.2), if_neg (fun q => by omega)]
      · rw [if_neg (fun q : a = 8 ∧ b < 128 => h8 q.1), tu_ne h8]
theorem eR.kept1 {D : va_G} {q : Nat} {x : Int32} {H H1 : Heap} (h : eR D (some q) x H) (hq : q < H.size → H1[q]? = H[q]?) : eR D (some q) x H1 := by
  obtain ⟨b, f, s, h1, hg, hO⟩ := h
  exact ⟨b, f, s, h1, hg, va_at.kept hO (hq (va_at.lt hO))⟩
section CSH
variable {D : va_G} {cA : Nat → ClassId} {A : Nat → Prop} {lab : Nat → Nat} {nm : Nat → Nat → Nat} {rf : Nat → Nat → Option Nat} {f : Nat → Nat → Int32} {nC nL nV : Nat} {H H1 : Heap}
/-- a rollout's share -/
theorem sh_CRv (h : CRv D cA lab nm rf f nC nL nV H) (hl : CRl A lab nm rf nC nL) (hq : IQ0 D cA nm H) {i k : Nat} (hi : i < nL) (hL : nL ≤ 8) (hC : nC ≤ 12) (hk16 : k < 16) (hr : rf i k = some (nm 10 (16 * i + k))) {x : Int32} (hx : 0 ≤ x) (hk : ∀ q, q < H.size → q ≠ nm 10 (16 * i + k) → H1[q]? = H[q]?) (hn : xO D (nm 10 (16 * i + k)) 6 [.ref (nm 11 (16 * i + k)), .int x] H1) : CRv D cA lab nm rf (mup f 10 (16 * i + k) x) nC nL nV H1 ∧ IQ0 D cA nm H1 := by
  have hlR := hl.2.2.2.2.2.2.2.2.2 i k hi hk16 (by rw [hr]; exact fun z => by cases z)
  have h10' : eR D (some (nm 11 (16 * i + k))) (f 9 (16 * i + k)) H := by
    rcases h.2.2.2.2.2.2.2.2.2.1 i k hi hk16 with ⟨r1, -⟩ | ⟨-, -, -, r4⟩
    · rw [hr] at r1; cases r1
    · exact r4
  have X := CRv.keptX (H1 := H1) (lab' := lab) h hl hq (fun x => x = 200 + (16 * i + k)) (by omega) (fun q h1 h2 h3 => hk q h1 (fun e => h3 (by rw [e]; exact hlR.1))) (fun _ _ => rfl)
  obtain ⟨h1, h2, h3, h4, h5, h6, h7, h8, h9, h10, h11, h12⟩ := X
  have E : ∀ k2, k2 ≠ 10 → mup f 10 (16 * i + k) x k2 = f k2 := fun k2 k0 => mupN k0
  refine ⟨⟨h1 (by omega), h2 (by omega) (by omega), h3 (by omega) (by omega), h4 (by omega) (by omega), fun j hj => ?_, fun j hj => ?_, fun j hj => ?_, fun j hj => h8 j hj (by omega), fun j hj => ?_, fun j b2 hj hb => ?_, fun v hv => ?_⟩, h12 (by omega) (by omega)⟩
  · rw [E 0 (by decide), E 1 (by decide)]; exact h5 j hj (by omega)
  · rw [E 4 (by decide), E 5 (by decide), E 3 (by decide)]; exact h6 j hj (by omega)
  · rw [hoF_cong (E 11 (by decide))]; exact h7 j hj (by omega)
  · rw [E 8 (by decide)]; exact h9 j hj (by omega)
  · rw [E 9 (by decide)]
    by_cases e : j = i ∧ b2 = k
    · obtain ⟨e1, e2⟩ := e
      subst e1; subst e2
      right
      rw [mupA]
      exact ⟨hr, hx, hn, h10'.kept1 (fun hlt => hk _ hlt (fun e => by have h1 := hlR.2; rw [e, hlR.1] at h1; omega))⟩
    · rw [mupU (show 16 * j + b2 ≠ 16 * i + k by omega)]
      exact h10 j b2 hj hb (by omega)
  · rw [E 12 (by decide)]; exact h11 v hv
end CSH
theorem mup_mup {α : Type} {f : Nat → Nat → α} {k j : Nat} {x y : α} : mup (mup f k j x) k j y = mup f k j y := by
  funext a b
  unfold mup
  by_cases h : a = k
  · by_cases h2 : b = j
    · simp [h, h2]
    · simp [h, h2]
  · simp [h]
/-- how many versions there are behind an advance -/
def adN (f : Nat → Nat → Int32) (nV k : Nat) (sh : Int32) : Nat := if sh < 100 then nV else putV (mS f) nV k (f 9 k)
theorem ad_cnt {f : Nat → Nat → Int32} {nC i j : Nat} {sh : Int32} {g : Nat → Nat → Int32} (hj : j < 16) (h0 : g 0 = f 0) (h1 : g 1 = f 1) (h4 : g 4 = f 4) (h5 : g 5 = f 5) : cntF (fun c => forF g i c && decide (nI (bk c i j) < sh)) nC = adV (mS f) nC i (16 * i + j) sh := by
  unfold adV
  refine cntF_cong (fun c _ => ?_)
  rw [show (16 * i + j) / 16 = i by omega, show (16 * i + j) % 16 = j by omega, forF_cong h0 h1 h4 h5]
