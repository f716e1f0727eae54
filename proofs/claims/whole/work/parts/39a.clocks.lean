/-! locks and rollouts: small words -/
theorem okO_pos {o : Int32} (h : okO o = true) : 0 ≤ o ∧ ¬ o = 0 := by
  have h1 := (inB_iff.mp h).1
  rw [Int32.le_iff_toInt_le] at h1
  have e1 : (1 : Int32).toInt = 1 := by decide
  have e0 : (0 : Int32).toInt = 0 := by decide
  rw [e1] at h1
  refine ⟨by rw [Int32.le_iff_toInt_le, e0]; omega, fun q => by rw [q, e0] at h1; omega⟩
theorem lk_A {i : Nat} (hi : i < 8) : lkA (ix (nI i)) (-1) = hoA i 16 := by
  rw [ix_nI (by omega)]
  rfl
theorem lk_B {i j : Nat} (hi : i < 8) (hj : j < 16) : lkA (ix (nI i)) (nI j) = hoA i j := by
  unfold lkA hoA
  rw [if_neg (nI_m1 (by omega)), ix_nI (by omega), ix_nI (by omega), if_pos hj]
theorem ho_A (f : Nat → Nat → Int32) (i k : Nat) : hoF f i k = f 11 (hoA i k) := by
  unfold hoF hoA
  split <;> rfl
