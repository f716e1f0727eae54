/-! the model's functions, in plain words -/
theorem w_b31 {n : Nat} (h : n < 65536) : n < 2 ^ 31 := by omega
def gz (w : Int32) : Bool := decide (w = 0)
def okS (v : Int32) : Bool := inB v 0 15
def okO (v : Int32) : Bool := inB v 1 9
def okB (v : Int32) : Bool := inB v (-9999) 9999
def ok8 (v : Int32) : Bool := inB v 0 7
/-- there are n of them, from 0 on -/
def okN (n : Nat) (v : Int32) : Bool := decide (0 ≤ v) && decide (v < nI n)
def okT (f s : Int32) : Bool := okS f && (decide (s = -1) || okS s)
def enc (b f s : Int32) : Int32 := ((1 + b) + 9999) + (20000 * ((f + 1) + (17 * (s + 1))))
def dB (e : Int32) : Int32 := ((e - 1) - (e - 1) / 20000 * 20000) - 9999
def dF (e : Int32) : Int32 := (((e - 1) / 20000) - ((e - 1) / 20000) / 17 * 17) - 1
def dS (e : Int32) : Int32 := (((e - 1) / 20000) / 17) - 1
def bk (c a b : Nat) : Nat := (31 * c + 17 * b + 7 * a) % 100
/-- of two layers, by their precedences f: a goes ahead of b -/
def ahd (f : Nat → Int32) (a b : Nat) : Bool := decide (f b < f a) || (decide (f a = f b) && decide (b < a))
/-- the layer a is for the client c -/
def forF (f : Nat → Nat → Int32) (a c : Nat) : Bool := decide (f 4 a = 0) || decide ((if f 4 a = 1 then f 0 c else if f 4 a = 2 then f 1 c else nI c) = f 5 a)
/-- the cell k is locked for the owner o, by the locks f -/
def lckF (f : Nat → Int32) (k : Nat) (o : Int32) : Bool := (decide (0 < f k) && decide (f k ≠ o)) || (decide (0 < f (128 + k / 16)) && decide (f (128 + k / 16) ≠ o))
def lkAt (a : Nat) (v : Int32) : Nat := if v = -1 then 128 + a else 16 * a + v.toNatClampNeg
theorem n16 (a b : Nat) : (16 : Int32) * nI a + nI b = nI (16 * a + b) := by
  rw [show (16 : Int32) = nI 16 from rfl, pk_mul, nI_add]
theorem n128 (k : Nat) : (128 : Int32) + nI k = nI (128 + k) := by
  rw [show (128 : Int32) = nI 128 from rfl, nI_add]
theorem ndiv16 {k : Nat} (h : k < 2 ^ 31) : nI k / (16 : Int32) = nI (k / 16) := by
  rw [show (16 : Int32) = nI 16 from rfl, pk_div h (by omega) (by omega)]
theorem nrem16 {k : Nat} (h : k < 2 ^ 31) : nI k - nI k / (16 : Int32) * 16 = nI (k % 16) := by
  rw [show (16 : Int32) = nI 16 from rfl, pk_rem h (by omega) (by omega)]
theorem nrem100 {k : Nat} (h : k < 2 ^ 31) : nI k - nI k / (100 : Int32) * 100 = nI (k % 100) := by
  rw [show (100 : Int32) = nI 100 from rfl, pk_rem h (by omega) (by omega)]
theorem n31 (k : Nat) : (31 : Int32) * nI k = nI (31 * k) := by rw [show (31 : Int32) = nI 31 from rfl, pk_mul]
theorem n17 (k : Nat) : (17 : Int32) * nI k = nI (17 * k) := by rw [show (17 : Int32) = nI 17 from rfl, pk_mul]
theorem n7 (k : Nat) : (7 : Int32) * nI k = nI (7 * k) := by rw [show (7 : Int32) = nI 7 from rfl, pk_mul]
theorem bk_eq {c k : Nat} (hc : c < 12) (hk : k < 128) : (31 * nI c + 17 * (nI k - nI k / 16 * 16) + 7 * (nI k / 16)) - (31 * nI c + 17 * (nI k - nI k / 16 * 16) + 7 * (nI k / 16)) / 100 * 100 = nI (bk c (k / 16) (k % 16)) := by
  rw [nrem16 (by omega), ndiv16 (by omega), n31, n17, n7, nI_add, nI_add, nrem100 (by omega)]
  rfl
theorem bk_eq2 {c a b : Nat} (hc : c < 12) (ha : a < 8) (hb : b < 16) : (31 * nI c + 17 * nI b + 7 * nI a) - (31 * nI c + 17 * nI b + 7 * nI a) / 100 * 100 = nI (bk c a b) := by
  rw [n31, n17, n7, nI_add, nI_add, nrem100 (by omega)]
  rfl
theorem inB_iff {v lo hi : Int32} : inB v lo hi = true ↔ lo ≤ v ∧ v ≤ hi := by simp [inB]
theorem okN_iff {n : Nat} {v : Int32} : okN n v = true ↔ 0 ≤ v ∧ v < nI n := by simp [okN]
theorem okN_of {n : Nat} (hn : n < 2 ^ 31) {v : Int32} (h : okN n v = true) : ∃ j : Nat, j < n ∧ v = nI j := by
  obtain ⟨h1, h2⟩ := okN_iff.mp h
  rcases pk_ix v hn with q | q | q
  · exact absurd (Int32.le_iff_toInt_le.mp h1) (by have := Int32.lt_iff_toInt_lt.mp q; omega)
  · exact absurd (Int32.le_iff_toInt_le.mp q) (by have := Int32.lt_iff_toInt_lt.mp h2; omega)
  · exact q
theorem okN_nI {n j : Nat} (hn : n < 2 ^ 31) (hj : j < n) : okN n (nI j) = true := okN_iff.mpr ⟨nI_pos' (by omega), nI_lt hj hn⟩
/-- isIn(v, 0, n - 1) is the same as 'there is such a one' -/
theorem inB_okN {n : Nat} (hn : n < 65536) (v : Int32) : inB v 0 (nI n - 1) = okN n v := by
  have e : (nI n - 1 : Int32).toInt = (n : Int) - 1 := by
    rw [show (1 : Int32) = nI 1 from rfl, pk_sub_toInt (by omega) (by omega)]; omega
  have e2 := nI_toInt (w_b31 hn)
  rw [Bool.eq_iff_iff, inB_iff, okN_iff, Int32.le_iff_toInt_le, Int32.le_iff_toInt_le, Int32.lt_iff_toInt_lt, e, e2]
  omega
theorem okS_eq (v : Int32) : okS v = okN 16 v := by
  have e : (15 : Int32).toInt = 15 := by decide
  have e2 := nI_toInt (n := 16) (by omega)
  rw [okS, Bool.eq_iff_iff, inB_iff, okN_iff, Int32.le_iff_toInt_le, Int32.le_iff_toInt_le, Int32.lt_iff_toInt_lt, e, e2]
  omega
theorem okS_of {v : Int32} (h : okS v = true) : ∃ j : Nat, j < 16 ∧ v = nI j := okN_of (by omega) (by rw [← okS_eq]; exact h)
theorem okS_nI {j : Nat} (h : j < 16) : okS (nI j) = true := by rw [okS_eq]; exact okN_nI (by omega) h
/-- the first n cells of the entries are in the row of the version v -/
def cpS (σ : MS) (v n : Nat) : MS := (σ.1, fun k j => if k = 12 ∧ 128 * v ≤ j ∧ j < 128 * v + n then σ.2.1 7 (j - 128 * v) else σ.2.1 k j, σ.2.2)
theorem cpS_0 (σ : MS) (v : Nat) : cpS σ v 0 = σ := by
  obtain ⟨g, f, h⟩ := σ
  simp only [cpS, Prod.mk.injEq, and_true, true_and]
  funext k j
  rw [if_neg (by omega)]
theorem cpS_7 (σ : MS) (v n j : Nat) : (cpS σ v n).2.1 7 j = σ.2.1 7 j := by simp [cpS]
theorem cpS_1 (σ : MS) (v n : Nat) : sa (cpS σ v n) 12 (128 * v + n) (σ.2.1 7 n) = cpS σ v (n + 1) := by
  refine Prod.ext rfl (Prod.ext ?_ rfl)
  funext k j
  show mup (fun k j => if k = 12 ∧ 128 * v ≤ j ∧ j < 128 * v + n then σ.2.1 7 (j - 128 * v) else σ.2.1 k j) 12 (128 * v + n) (σ.2.1 7 n) k j = if k = 12 ∧ 128 * v ≤ j ∧ j < 128 * v + (n + 1) then σ.2.1 7 (j - 128 * v) else σ.2.1 k j
  unfold mup
  dsimp only
  by_cases hk : k = 12
  · subst hk
    by_cases hj : j = 128 * v + n
    · subst hj
      rw [if_pos rfl, if_pos rfl, if_pos ⟨rfl, by omega, by omega⟩, Nat.add_sub_cancel_left]
    · rw [if_pos rfl, if_neg hj]
      by_cases h1 : 128 * v ≤ j ∧ j < 128 * v + n
      · rw [if_pos ⟨rfl, h1⟩, if_pos ⟨rfl, by omega, by omega⟩]
      · rw [if_neg (fun q => h1 q.2), if_neg (fun q => h1 ⟨q.2.1, by omega⟩)]
  · rw [if_neg hk, if_neg (fun q => hk q.1), if_neg (fun q => hk q.1)]
