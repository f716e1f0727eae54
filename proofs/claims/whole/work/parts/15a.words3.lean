/-! rollbacks, what is shown, the deciding layer -/
def anyF (p : Nat → Bool) : Nat → Bool
  | 0 => false
  | n + 1 => anyF p n || p n
/-- the first n cells are those of the version to -/
def rbS (σ : MS) (v to n : Nat) : MS := (σ.1, fun k j => if k = 8 ∧ j < n then (if σ.2.1 12 (128 * to + j) = σ.2.1 7 j then σ.2.1 8 j else nI (v + 1)) else if k = 7 ∧ j < n then σ.2.1 12 (128 * to + j) else σ.2.1 k j, σ.2.2)
theorem rbS_0 (σ : MS) (v to : Nat) : rbS σ v to 0 = σ := by
  refine Prod.ext rfl (Prod.ext ?_ rfl)
  funext k j
  show (if k = 8 ∧ j < 0 then _ else if k = 7 ∧ j < 0 then _ else σ.2.1 k j) = σ.2.1 k j
  rw [if_neg (by omega), if_neg (by omega)]
theorem rbS_8 (σ : MS) (v to n : Nat) : (rbS σ v to n).2.1 8 n = σ.2.1 8 n := by simp [rbS]
theorem rbS_7 (σ : MS) (v to n : Nat) : (rbS σ v to n).2.1 7 n = σ.2.1 7 n := by simp [rbS]
theorem rbS_1 (σ : MS) (v to n : Nat) : sa (sa (rbS σ v to n) 8 n (if σ.2.1 12 (128 * to + n) = σ.2.1 7 n then σ.2.1 8 n else nI (v + 1))) 7 n (σ.2.1 12 (128 * to + n)) = rbS σ v to (n + 1) := by
  refine Prod.ext rfl (Prod.ext ?_ rfl)
  funext k j
  show mup (mup (rbS σ v to n).2.1 8 n _) 7 n _ k j = (if k = 8 ∧ j < n + 1 then (if σ.2.1 12 (128 * to + j) = σ.2.1 7 j then σ.2.1 8 j else nI (v + 1)) else if k = 7 ∧ j < n + 1 then σ.2.1 12 (128 * to + j) else σ.2.1 k j)
  unfold mup
  dsimp only [rbS]
  by_cases h7 : k = 7
  · subst h7
    by_cases hj : j = n
    · subst hj; simp
    · by_cases hl : j < n
      · have h2 : j < n + 1 := by omega
        simp [hj, hl, h2]
      · have h2 : ¬ j < n + 1 := by omega
        simp [hj, hl, h2]
  · by_cases h8 : k = 8
    · subst h8
      by_cases hj : j = n
      · subst hj; simp
      · by_cases hl : j < n
        · have h2 : j < n + 1 := by omega
          simp [hj, hl, h2]
        · have h2 : ¬ j < n + 1 := by omega
          simp [hj, hl, h2]
    · simp [h7, h8]
def rollS (σ : MS) (v to : Nat) : MS := cpS (sg (rbS σ v to 128) 13 (nI (v + 1))) (v + 1) 128
theorem PE_rbS {σ τ : MS} (h : PE σ τ) (v to n : Nat) : PE (rbS σ v to n) (rbS τ v to n) := by
  refine ⟨h.1, fun i q => ?_⟩
  have e7 := h.2 7 (by decide)
  have e8 := h.2 8 (by decide)
  have e12 := h.2 12 (by decide)
  funext a
  show (if i = 8 ∧ a < n then (if σ.2.1 12 (128 * to + a) = σ.2.1 7 a then σ.2.1 8 a else nI (v + 1)) else if i = 7 ∧ a < n then σ.2.1 12 (128 * to + a) else σ.2.1 i a) = (if i = 8 ∧ a < n then (if τ.2.1 12 (128 * to + a) = τ.2.1 7 a then τ.2.1 8 a else nI (v + 1)) else if i = 7 ∧ a < n then τ.2.1 12 (128 * to + a) else τ.2.1 i a)
  rw [e7, e8, e12, h.2 i q]
theorem PE_rollS {σ τ : MS} (h : PE σ τ) (v to : Nat) : PE (rollS σ v to) (rollS τ v to) := PE_cpS (PE_sg2 (PE_rbS h v to 128) 13 _) _ _
/-- the cell k is another one in the version to -/
def difF (f : Nat → Nat → Int32) (to k : Nat) : Bool := decide (f 12 (128 * to + k) ≠ f 7 k)
def barR (f : Nat → Nat → Int32) (to : Nat) (o : Int32) (k : Nat) : Bool := difF f to k && (lckF (f 11) k o || decide (0 ≤ f 10 k))
def kRo (σ : MS) (nV : Nat) (to o : Int32) : Int32 := if okN (nV + 1) to then (if okO o then (if anyF (barR σ.2.1 (ix to) o) 128 then 3 else 0) else 2) else 1
theorem inB_okN2 {n : Nat} (hn : n < 65536) (v : Int32) : inB v 0 (nI n) = okN (n + 1) v := by
  have e2 := nI_toInt (w_b31 hn)
  have e3 := nI_toInt (n := n + 1) (by omega)
  rw [Bool.eq_iff_iff, inB_iff, okN_iff, Int32.le_iff_toInt_le, Int32.le_iff_toInt_le, Int32.lt_iff_toInt_lt, e2, e3]
  omega
/-- now (none), or a version -/
def atI (w : Option Nat) : Int32 := match w with
  | none => -1
  | some v => nI v
def rolF (f : Nat → Nat → Int32) (c k : Nat) (w : Option Nat) : Bool := match w with
  | none => decide (0 ≤ f 10 k) && decide (nI (bk c (k / 16) (k % 16)) < f 10 k)
  | some _ => false
def shwF (f : Nat → Nat → Int32) (c k : Nat) (w : Option Nat) : Int32 := if rolF f c k w then f 9 k else match w with
  | none => f 7 k
  | some v => f 12 (128 * v + k)
def decS (f : Nat → Nat → Int32) (n : Nat) (x : Option Nat) : Bool := match x with
  | none => true
  | some j => ahd (f 3) n j
/-- of the first n layers the deciding one -/
def decO (f : Nat → Nat → Int32) (c b : Nat) (w : Option Nat) : Nat → Option Nat
  | 0 => none
  | n + 1 => if (forF f n c && (decide (0 < shwF f c (16 * n + b) w) && decS f n (decO f c b w n))) = true then some n else decO f c b w n
theorem decO_lt {f : Nat → Nat → Int32} {c b : Nat} {w : Option Nat} : ∀ {n j : Nat}, decO f c b w n = some j → j < n ∧ 0 < shwF f c (16 * j + b) w
  | 0, j, h => by cases h
  | n + 1, j, h => by
    unfold decO at h
    by_cases hc : (forF f n c && (decide (0 < shwF f c (16 * n + b) w) && decS f n (decO f c b w n))) = true
    · rw [if_pos hc] at h
      cases h
      simp only [Bool.and_eq_true, decide_eq_true_eq] at hc
      exact ⟨by omega, hc.2.1⟩
    · rw [if_neg hc] at h
      obtain ⟨h1, h2⟩ := decO_lt h
      exact ⟨by omega, h2⟩
theorem nI_m1 {n : Nat} (h : n < 65536) : ¬ nI n = -1 := fun q => by
  have e := nI_toInt (w_b31 h)
  have e1 : (-1 : Int32).toInt = -1 := by decide
  rw [q, e1] at e
  omega
/-- a layer, or none -/
def loI (x : Option Nat) : Int32 := match x with
  | none => -1
  | some j => nI j
theorem atI_none {w : Option Nat} (hw : ∀ v, w = some v → v < 65536) (h : atI w = -1) : w = none := by
  cases w with
  | none => rfl
  | some v => exact absurd h (nI_m1 (hw v rfl))
