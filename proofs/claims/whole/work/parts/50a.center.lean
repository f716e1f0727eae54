/-! one cell changes: turnInto's words and the model's -/
def exF (f : Nat → Nat → Int32) (k : Nat) (e : Int32) : Nat → Int32 := fun a => if a = k then e else f 7 a
theorem ex_df {f : Nat → Nat → Int32} {k : Nat} {e : Int32} : ∀ {n : Nat}, n ≤ k → cntF (dfF f (exF f k e)) n = 0
  | 0, _ => rfl
  | n + 1, h => by
    have h0 : dfF f (exF f k e) n = false := by unfold dfF exF; rw [if_neg (by omega)]; simp
    rw [cntF_f h0]
    exact ex_df (by omega)
theorem ex_cnt {f : Nat → Nat → Int32} {k : Nat} {e : Int32} : ∀ {n : Nat}, k < n → cntF (dfF f (exF f k e)) n = if f 7 k = e then 0 else 1
  | 0, h => absurd h (Nat.not_lt_zero _)
  | n + 1, h => by
    by_cases hk : k = n
    · subst hk
      by_cases he : f 7 k = e
      · have h0 : dfF f (exF f k e) k = false := by unfold dfF exF; rw [if_pos rfl]; simp [he]
        rw [cntF_f h0, ex_df (Nat.le_refl _), if_pos he]
      · have h0 : dfF f (exF f k e) k = true := by unfold dfF exF; rw [if_pos rfl]; simp [he]
        rw [cntF_t h0, ex_df (Nat.le_refl _), if_neg he]
    · have h0 : dfF f (exF f k e) n = false := by unfold dfF exF; rw [if_neg (by omega)]; simp
      rw [cntF_f h0]
      exact ex_cnt (by omega)
theorem cp_row (S : MS) (v k j : Nat) : (cpS S v 128).2.1 k j = if k = 12 ∧ 128 * v ≤ j ∧ j < 128 * v + 128 then S.2.1 7 (j - 128 * v) else S.2.1 k j := rfl
theorem ex_put {f : Nat → Nat → Int32} {k v n : Nat} {e : Int32} (hk : k < n) (hn : n ≤ 128) (he : ¬ f 7 k = e) : tuG f (exF f k e) v n = (putS (mS f) v k e).2.1 := by
  have h1 : (putS (mS f) v k e) = sa (cpS (sg (sa (mS f) 7 k e) 13 (nI (v + 1))) (v + 1) 128) 8 k (nI (v + 1)) := by
    unfold putS
    exact if_neg he
  rw [h1]
  have hS : (sg (sa (mS f) 7 k e) 13 (nI (v + 1))).2.1 = mup f 7 k e := rfl
  generalize sg (sa (mS f) 7 k e) 13 (nI (v + 1)) = S at hS ⊢
  rw [show (sa (cpS S (v + 1) 128) 8 k (nI (v + 1))).2.1 = mup (cpS S (v + 1) 128).2.1 8 k (nI (v + 1)) from rfl]
  funext a b
  unfold tuG
  by_cases h7 : a = 7
  · subst h7
    rw [mupN (by decide)]
    rw [cp_row, hS]
    have c0 : ¬ (7 = 12 ∧ 128 * (v + 1) ≤ b ∧ b < 128 * (v + 1) + 128) := fun q => by omega
    rw [if_neg c0, if_neg c0]
    by_cases hb : b < 128
    · rw [if_pos ⟨rfl, hb⟩]
      unfold exF
      by_cases e2 : b = k
      · subst e2; rw [if_pos rfl, mupA]
      · rw [if_neg e2, mupU e2]
    · rw [if_neg (fun q => hb q.2), mupU (by omega), tu_ne (by decide)]
  · rw [if_neg (fun q => h7 q.1)]
    by_cases h12 : a = 12
    · subst h12
      rw [mupN (by decide)]
      rw [cp_row, hS]
      by_cases hb : 128 * (v + 1) ≤ b ∧ b < 128 * (v + 1) + 128
      · rw [if_pos ⟨rfl, hb⟩, if_pos ⟨rfl, hb⟩]
        unfold exF
        by_cases e2 : b - 128 * (v + 1) = k
        · rw [if_pos e2, e2, mupA]
        · rw [if_neg e2, mupU e2]
      · rw [if_neg (fun q => hb q.2), if_neg (fun q => hb q.2), tu_ne (by decide), mupN (by decide)]
    · rw [if_neg (fun q => h12 q.1)]
      by_cases h8 : a = 8
      · subst h8
        by_cases e2 : b = k
        · subst e2
          rw [mupA]
          unfold tuF exF
          rw [if_pos ⟨rfl, hk⟩, if_pos rfl, if_neg he]
        · rw [mupU e2]
          rw [cp_row, hS]
          rw [if_neg (show ¬ (8 = 12 ∧ 128 * (v + 1) ≤ b ∧ b < 128 * (v + 1) + 128) from fun q => by omega), mupN (by decide)]
          unfold tuF exF
          rw [if_neg e2]
          split
          · rw [if_pos rfl]
          · rfl
      · rw [tu_ne h8, mupN h8]
        rw [cp_row, hS]
        rw [if_neg (fun q => h12 q.1), mupN h7]
/-- new entries: all but one cell are the old ones -/
theorem ENT.ex {D : va_G} {cA : Nat → ClassId} {lab' : Nat → Nat} {q ea2 : Nat} {f : Nat → Nat → Int32} {g g2 : Nat → Option Nat} {x : Nat → Int32} {k0 : Nat} {o : Option Nat} {e : Int32} {H : Heap} (hO : xO D q 2 [.ref ea2] H) (hQ : xQ (cA 2) ea2 128 g2 H) (hg : ∀ k, k < 128 → g2 k = if k = k0 then o else g k) (hE : ∀ k, k < 128 → eR D (g k) (x k) H) (hx : ∀ k, k < 128 → x k = f 7 k) (ho : eR D o e H) (l1 : lab' q = 10) (l2 : lab' ea2 = 10) (l3 : ∀ k y, k < 128 → g k = some y → lab' y = 10) (l4 : ∀ y, o = some y → lab' y = 10) : ENT D cA lab' q (exF f k0 e) H := by
  refine ⟨ea2, g2, hO, hQ, fun k hk => ?_, l1, l2, fun k y hk hy => ?_⟩
  · rw [hg k hk]
    unfold exF
    by_cases h : k = k0
    · rw [if_pos h, if_pos h]; exact ho
    · rw [if_neg h, if_neg h, ← hx k hk]; exact hE k hk
  · rw [hg k hk] at hy
    by_cases h : k = k0
    · rw [if_pos h] at hy; exact l4 y hy
    · rw [if_neg h] at hy; exact l3 k y hk hy
theorem lu_tw {lab : Nat → Nat} {q e v : Nat} : lu (lu lab q v) e v q = v := by
  by_cases h : q = e
  · rw [h, lu_at]
  · rw [lu_un h, lu_at]
