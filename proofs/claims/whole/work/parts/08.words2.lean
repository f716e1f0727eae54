/-! what each call of the model throws (k..), and its new state (..S) -/
def ix (v : Int32) : Nat := v.toNatClampNeg
theorem ix_nI {j : Nat} (h : j < 65536) : ix (nI j) = j := nI_clamp (w_b31 h)
def cl (p1 p2 : Int32) : Nat := 16 * ix p1 + ix p2
theorem cl_nI {a b : Nat} (ha : a < 8) (hb : b < 16) : cl (nI a) (nI b) = 16 * a + b := by
  rw [cl, ix_nI (by omega), ix_nI (by omega)]
def cntF (p : Nat → Bool) : Nat → Nat
  | 0 => 0
  | n + 1 => cntF p n + (if p n then 1 else 0)
theorem cntF_t {p : Nat → Bool} {n : Nat} (h : p n = true) : cntF p (n + 1) = cntF p n + 1 := by rw [cntF, if_pos h]
theorem cntF_f {p : Nat → Bool} {n : Nat} (h : p n = false) : cntF p (n + 1) = cntF p n := by rw [cntF, h]; rfl
theorem cntF_le (p : Nat → Bool) : ∀ n, cntF p n ≤ n
  | 0 => Nat.le_refl 0
  | n + 1 => by
    have h := cntF_le p n
    rw [cntF]; split <;> omega
theorem cntF_cong {p q : Nat → Bool} : ∀ {n : Nat}, (∀ k, k < n → p k = q k) → cntF p n = cntF q n
  | 0, _ => rfl
  | n + 1, h => by rw [cntF, cntF, cntF_cong (fun k hk => h k (by omega)), h n (by omega)]
/-- the last place of n where p holds -/
def lastF (p : Nat → Bool) : Nat → Int32
  | 0 => 0
  | n + 1 => if p n then nI n else lastF p n
def plcF (f : Nat → Int32) (n a : Nat) : Nat := cntF (fun b => ahd f b a) n
def kCl (nC : Nat) (a b : Int32) : Int32 := if ok8 a && ok8 b then (if nI nC = 12 then 2 else 0) else 1
def clS (σ : MS) (nC : Nat) (a b : Int32) : MS := sg (sa (sa σ 0 nC a) 1 nC b) 2 (nI (nC + 1))
def kMv (nC : Nat) (c a b : Int32) : Int32 := if okN nC c then (if ok8 a && ok8 b then 0 else 2) else 1
def mvS (σ : MS) (c a b : Int32) : MS := sa (sa σ 0 (ix c) a) 1 (ix c) b
/-- the greatest 'which' of a selector, as the model has it -/
def mostF (q : Int32) : Int32 := if q = 0 then 0 else if q = 3 then 11 else 7
def kLy (nL : Nat) (p q w : Int32) : Int32 := if inB p 0 99 && inB q 0 3 && inB w 0 (mostF q) then (if nI nL = 8 then 2 else 0) else 1
def lyS (σ : MS) (nL : Nat) (p q w : Int32) : MS := sg (sa (sa (sa σ 3 nL p) 4 nL q) 5 nL w) 6 (nI (nL + 1))
def kRk (nL : Nat) (a p : Int32) : Int32 := if okN nL a then (if inB p 0 99 then 0 else 2) else 1
def kLA (nL : Nat) (p : Int32) : Int32 := if okN nL p then 0 else 1
def lyAt (f : Nat → Int32) (nL : Nat) (p : Int32) : Int32 := lastF (fun a => decide (nI (plcF f nL a) = p)) nL
def kAp (nL nC : Nat) (a c : Int32) : Int32 := if okN nL a && okN nC c then 0 else 1
/-- the entry of the cell k becomes e -/
def putS (σ : MS) (v k : Nat) (e : Int32) : MS := if σ.2.1 7 k = e then σ else sa (cpS (sg (sa σ 7 k e) 13 (nI (v + 1))) (v + 1) 128) 8 k (nI (v + 1))
def putV (σ : MS) (v k : Nat) (e : Int32) : Nat := if σ.2.1 7 k = e then v else v + 1
def wrF (σ : MS) (nL : Nat) (p1 p2 : Int32) (are : Bool) (o : Int32) (ro : Bool) : Int32 := if okN nL p1 && okS p2 then (if are && okO o then (if lckF (σ.2.1 11) (cl p1 p2) o || (decide (0 ≤ σ.2.1 10 (cl p1 p2)) != ro) then 3 else 0) else 2) else 1
theorem gz_t {w : Int32} (h : gz w = true) : w = 0 := by simpa [gz] using h
theorem wrF_0 {σ : MS} {nL : Nat} {p1 p2 : Int32} {are : Bool} {o : Int32} {ro : Bool} (h : wrF σ nL p1 p2 are o ro = 0) : okN nL p1 = true ∧ okS p2 = true ∧ are = true ∧ okO o = true := by
  unfold wrF at h
  by_cases h1 : (okN nL p1 && okS p2) = true
  · rw [if_pos h1] at h
    by_cases h2 : (are && okO o) = true
    · simp only [Bool.and_eq_true] at h1 h2
      exact ⟨h1.1, h1.2, h2.1, h2.2⟩
    · rw [if_neg h2] at h
      exact absurd h (by decide)
  · rw [if_neg h1] at h
    exact absurd h (by decide)
def kRm (σ : MS) (nL : Nat) (p1 p2 o : Int32) : Int32 := if wrF σ nL p1 p2 true o false = 0 then (if σ.2.1 7 (cl p1 p2) = 0 then 3 else 0) else wrF σ nL p1 p2 true o false
def kCe (nL : Nat) (p1 p2 : Int32) : Int32 := if okN nL p1 && okS p2 then 0 else 1
def rlS (σ : MS) (k : Nat) (e : Int32) : MS := sa (sa σ 9 k e) 10 k 0
def kAd (σ : MS) (nL : Nat) (p1 p2 sh o : Int32) : Int32 := if wrF σ nL p1 p2 (inB sh 1 100) o true = 0 then (if σ.2.1 10 (cl p1 p2) < sh then 0 else 3) else wrF σ nL p1 p2 (inB sh 1 100) o true
def adS (σ : MS) (v k : Nat) (sh : Int32) : MS := if sh < 100 then sa σ 10 k sh else putS (sa σ 10 k (-1)) v k (σ.2.1 9 k)
def adV (σ : MS) (nC a k : Nat) (sh : Int32) : Nat := cntF (fun c => forF σ.2.1 a c && decide (nI (bk c (k / 16) (k % 16)) < sh)) nC
def kLk (nL : Nat) (p1 p2 o : Int32) : Int32 := if okN nL p1 && (decide (p2 = -1) || okS p2) then (if okO o then 0 else 2) else 1
/-- the place of a lock: the layer as a whole for -1 -/
def lkA (a : Nat) (v : Int32) : Nat := if v = -1 then 128 + a else 16 * a + ix v
theorem lkA_lt {a : Nat} {v : Int32} (ha : a < 8) (hv : v = -1 ∨ okS v = true) : lkA a v < 136 := by
  unfold lkA
  by_cases h : v = -1
  · rw [if_pos h]; omega
  · rw [if_neg h]
    obtain ⟨j, hj, rfl⟩ := okS_of (hv.resolve_left h)
    rw [ix_nI (by omega)]; omega
/-- another owner bars this lock -/
def barF (f : Nat → Int32) (a : Nat) (p2 o : Int32) : Nat → Bool
  | 0 => decide (0 < f (128 + a)) && decide (f (128 + a) ≠ o)
  | n + 1 => barF f a p2 o n || (decide (0 < f (16 * a + n)) && decide (f (16 * a + n) ≠ o) && (decide (p2 = -1) || decide (p2 = nI n)))
def lksF (f : Nat → Int32) (o : Int32) : Nat := cntF (fun k => decide (f k = o)) 136
def kLo (σ : MS) (nL : Nat) (p1 p2 o : Int32) : Int32 := if kLk nL p1 p2 o = 0 then (if barF (σ.2.1 11) (ix p1) p2 o 16 then 3 else 0) else kLk nL p1 p2 o
def kUn (σ : MS) (nL : Nat) (p1 p2 o : Int32) : Int32 := if kLk nL p1 p2 o = 0 then (if σ.2.1 11 (lkA (ix p1) p2) = o then 0 else 3) else kLk nL p1 p2 o
def kIL (nL : Nat) (p1 p2 o : Int32) : Int32 := if okN nL p1 && okS p2 then (if okO o then 0 else 2) else 1
theorem PE_sa {σ τ : MS} (h : PE σ τ) (k j : Nat) (x : Int32) : PE (sa σ k j x) (sa τ k j x) := by
  refine ⟨h.1, fun i q => ?_⟩
  funext a
  show mup σ.2.1 k j x i a = mup τ.2.1 k j x i a
  unfold mup
  rw [h.2 i q]
theorem PE_sg2 {σ τ : MS} (h : PE σ τ) (k : Nat) (x : Int32) : PE (sg σ k x) (sg τ k x) := by
  refine ⟨fun i q => ?_, h.2⟩
  show upd σ.1 k x i = upd τ.1 k x i
  unfold upd; rw [h.1 i q]
theorem PE_cpS {σ τ : MS} (h : PE σ τ) (v n : Nat) : PE (cpS σ v n) (cpS τ v n) := by
  refine ⟨h.1, fun j q => ?_⟩
  funext a
  show (if j = 12 ∧ 128 * v ≤ a ∧ a < 128 * v + n then σ.2.1 7 (a - 128 * v) else σ.2.1 j a) = (if j = 12 ∧ 128 * v ≤ a ∧ a < 128 * v + n then τ.2.1 7 (a - 128 * v) else τ.2.1 j a)
  rw [h.2 7 (by decide), h.2 j q]
theorem kLk_0 {nL : Nat} {p1 p2 o : Int32} (h : kLk nL p1 p2 o = 0) : okN nL p1 = true ∧ (p2 = -1 ∨ okS p2 = true) ∧ okO o = true := by
  unfold kLk at h
  by_cases h1 : (okN nL p1 && (decide (p2 = -1) || okS p2)) = true
  · rw [if_pos h1] at h
    by_cases h2 : okO o = true
    · simp only [Bool.and_eq_true, Bool.or_eq_true, decide_eq_true_eq] at h1
      exact ⟨h1.1, h1.2, h2⟩
    · rw [if_neg h2] at h; exact absurd h (by decide)
  · rw [if_neg h1] at h; exact absurd h (by decide)
theorem putS_ne (σ : MS) (v k : Nat) (e : Int32) (j : Nat) (h : j ∈ [0, 1, 3, 4, 5, 9, 10, 11]) : (putS σ v k e).2.1 j = σ.2.1 j := by
  simp only [List.mem_cons, List.not_mem_nil, or_false] at h
  unfold putS
  split
  · rfl
  · rcases h with rfl | rfl | rfl | rfl | rfl | rfl | rfl | rfl <;> rfl
theorem putS_sc (σ : MS) (v k : Nat) (e : Int32) (j : Nat) (h : j ≠ 13) : (putS σ v k e).1 j = σ.1 j := by
  unfold putS
  split
  · rfl
  · exact pk_un h
theorem adS_ne (σ : MS) (v k : Nat) (sh : Int32) (j : Nat) (h : j ∈ [0, 1, 3, 4, 5, 9, 11]) : (adS σ v k sh).2.1 j = σ.2.1 j := by
  simp only [List.mem_cons, List.not_mem_nil, or_false] at h
  unfold adS
  split
  · rcases h with rfl | rfl | rfl | rfl | rfl | rfl | rfl <;> rfl
  · rw [putS_ne _ _ _ _ _ (by simp only [List.mem_cons, List.not_mem_nil, or_false]; omega)]
    rcases h with rfl | rfl | rfl | rfl | rfl | rfl | rfl <;> rfl
theorem adS_sc (σ : MS) (v k : Nat) (sh : Int32) (j : Nat) (h : j ≠ 13) : (adS σ v k sh).1 j = σ.1 j := by
  unfold adS
  split
  · rfl
  · rw [putS_sc _ _ _ _ _ h]; rfl
theorem forF_cong {f g : Nat → Nat → Int32} (h0 : f 0 = g 0) (h1 : f 1 = g 1) (h4 : f 4 = g 4) (h5 : f 5 = g 5) (a c : Nat) : forF f a c = forF g a c := by
  unfold forF; rw [h0, h1, h4, h5]
/-- a put in two states that last alike -/
theorem PE_put {σ τ : MS} (h : PE σ τ) (v k : Nat) (e : Int32) : PE (putS σ v k e) (putS τ v k e) := by
  have e7 : σ.2.1 7 = τ.2.1 7 := h.2 7 (by decide)
  unfold putS
  rw [e7]
  by_cases hc : τ.2.1 7 k = e
  · rw [if_pos hc, if_pos hc]; exact h
  · rw [if_neg hc, if_neg hc]
    exact PE_sa (PE_cpS (PE_sg2 (PE_sa h 7 k e) 13 _) _ _) 8 k _
theorem putS_25 (σ : MS) (v k : Nat) (e : Int32) : (putS σ v k e).1 25 = σ.1 25 := by
  unfold putS; split <;> rfl
