/-! what a change throws, in the class's words -/
theorem wr_ch {f : Nat → Nat → Int32} {nL i j : Nat} {are : Bool} {o : Int32} (hi : i < nL) (hL : nL ≤ 8) (hj : j < 16) (hp : ∀ k, 0 ≤ f 11 k) (h1 : are = true) (h2 : okO o = true) : wrF (mS f) nL (nI i) (nI j) are o false = if frF f i j o = true then 0 else 3 := by
  unfold wrF
  rw [okN_nI (by omega) hi, okS_nI hj, h1, h2, cl_nI (by omega) hj, frF_wr hp hj]
  show (if (true && true) = true then (if (true && true) = true then (if (lckF (f 11) (16 * i + j) o || (decide (0 ≤ f 10 (16 * i + j)) != false)) = true then (3 : Int32) else 0) else 2) else 1) = _
  cases (lckF (f 11) (16 * i + j) o || (decide (0 ≤ f 10 (16 * i + j)) != false)) <;> rfl
