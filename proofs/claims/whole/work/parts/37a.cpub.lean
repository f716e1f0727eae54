/-! public calls: the model's words in the class's -/
abbrev mS (f : Nat → Nat → Int32) : MS := (fun _ => 0, f, fun _ _ => 0)
theorem lck_he {f : Nat → Nat → Int32} (hp : ∀ k, 0 ≤ f 11 k) {i j : Nat} (hj : j < 16) (o : Int32) : (heF (hoF f i 16) o || heF (hoF f i j) o) = lckF (f 11) (16 * i + j) o := by
  have e : ∀ x : Int32, 0 ≤ x → (0 < x ↔ ¬ x = 0) := fun x hx => by
    rw [Int32.lt_iff_toInt_lt, ← Int32.toInt_inj]
    have h0 := Int32.le_iff_toInt_le.mp hx
    have z : (0 : Int32).toInt = 0 := by decide
    rw [z] at h0 ⊢
    omega
  have h16 : hoF f i 16 = f 11 (128 + i) := by unfold hoF; rw [if_neg (by omega)]
  have hjj : hoF f i j = f 11 (16 * i + j) := by unfold hoF; rw [if_pos hj]
  rw [h16, hjj]
  unfold heF lckF
  rw [show (16 * i + j) / 16 = i by omega, Bool.or_comm]
  simp only [e _ (hp _), ne_eq]
theorem frF_wr {f : Nat → Nat → Int32} (hp : ∀ k, 0 ≤ f 11 k) {i j : Nat} (hj : j < 16) (o : Int32) : frF f i j o = !(lckF (f 11) (16 * i + j) o || (decide (0 ≤ f 10 (16 * i + j)) != false)) := by
  unfold frF
  rw [lck_he hp hj, Bool.not_or]
  congr 1
  by_cases h : 0 ≤ f 10 (16 * i + j)
  · rw [decide_eq_true h, decide_eq_false (Int32.not_lt.mpr h)]; rfl
  · rw [decide_eq_false h, decide_eq_true (Int32.not_le.mp h)]; rfl
