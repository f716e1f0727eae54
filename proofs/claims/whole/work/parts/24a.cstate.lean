/-! the class's cells hold the model's state f; nm names their addresses by kind and place: 0 the object, 1 its lists, 2 clients, 3 layers, 4 holders, 5 rollouts, 6 changes, 7 versions, 9 the inquiry and its values, 10 rollouts by cell, 11 their entries, 12 the empty row -/
def hoF (f : Nat → Nat → Int32) (j i : Nat) : Int32 := if i < 16 then f 11 (16 * j + i) else f 11 (128 + j)
/-- the entries of a version at w: x by cell -/
def ENT (D : va_G) (cA : Nat → ClassId) (lab : Nat → Nat) (w : Nat) (x : Nat → Int32) (H : Heap) : Prop := ∃ (ea : Nat) (g : Nat → Option Nat), xO D w 2 [.ref ea] H ∧ xQ (cA 2) ea 128 g H ∧ (∀ k, k < 128 → eR D (g k) (x k) H) ∧ lab w = 10 ∧ lab ea = 10 ∧ ∀ k q, k < 128 → g k = some q → lab q = 10
def CRv (D : va_G) (cA : Nat → ClassId) (lab : Nat → Nat) (nm : Nat → Nat → Nat) (rf : Nat → Nat → Option Nat) (f : Nat → Nat → Int32) (nC nL nV : Nat) (H : Heap) : Prop :=
  xO D (nm 0 0) 7 [.ref (nm 1 0), .ref (nm 1 1), .ref (nm 1 2), .ref (nm 9 0), .ref (nm 7 nV)] H ∧
  LST D cA lab 5 (nm 12 0) (nm 1 0) nC (nm 2) H ∧ LST D cA lab 6 (nm 12 0) (nm 1 1) nL (nm 3) H ∧ LST D cA lab 7 (nm 12 0) (nm 1 2) (nV + 1) (nm 7) H ∧
  (∀ j, j < nC → xO D (nm 2 j) 1 [.int (f 0 j), .int (f 1 j)] H) ∧
  (∀ j, j < nL → xO D (nm 3 j) 5 (lyV (nI j) (f 4 j) (f 5 j) (f 3 j) (nm 4 j) (nm 5 j) (nm 6 j)) H) ∧
  (∀ j, j < nL → xI (cA 0) (nm 4 j) 17 (hoF f j) H) ∧
  (∀ j, j < nL → xQ (cA 3) (nm 5 j) 16 (rf j) H) ∧
  (∀ j, j < nL → xI (cA 0) (nm 6 j) 16 (fun b => f 8 (16 * j + b)) H) ∧
  (∀ j b, j < nL → b < 16 → (rf j b = none ∧ f 10 (16 * j + b) = -1) ∨ (rf j b = some (nm 10 (16 * j + b)) ∧ 0 ≤ f 10 (16 * j + b) ∧ xO D (nm 10 (16 * j + b)) 6 [.ref (nm 11 (16 * j + b)), .int (f 10 (16 * j + b))] H ∧ eR D (some (nm 11 (16 * j + b))) (f 9 (16 * j + b)) H)) ∧
  (∀ v, v ≤ nV → ENT D cA lab (nm 7 v) (fun k => f 12 (128 * v + k)) H)
/-- the numbers' bounds, and what the class keeps true of the state -/
def CRi (f : Nat → Nat → Int32) (nC nL nV : Nat) : Prop := nC ≤ 12 ∧ nL ≤ 8 ∧ nV ≤ 512 ∧ (∀ j, j < nL → f 4 j = 0 ∨ f 4 j = 1 ∨ f 4 j = 2 ∨ f 4 j = 3) ∧ gdR f ∧ (∀ k, k < 128 → f 7 k = f 12 (128 * nV + k)) ∧ (∀ v k, v ≤ nV → 16 * nL ≤ k → k < 128 → f 12 (128 * v + k) = 0) ∧ (∀ k, 0 ≤ f 11 k) ∧ (∀ k, 16 * nL ≤ k → k < 128 → f 11 k = 0) ∧ (∀ j, nL ≤ j → j < 8 → f 11 (128 + j) = 0) ∧ (∀ k, 16 * nL ≤ k → k < 128 → f 8 k = 0) ∧ ∀ k, 16 * nL ≤ k → k < 128 → f 10 k = -1
theorem slF_for {f : Nat → Nat → Int32} {a c : Nat} (h : f 4 a = 0 ∨ f 4 a = 1 ∨ f 4 a = 2 ∨ f 4 a = 3) : slF (f 4 a) (f 5 a) (f 0 c) (f 1 c) (nI c) = forF f a c := by
  unfold slF forF
  rfl
/-- a sum -/
def smF (g : Nat → Nat) : Nat → Nat
  | 0 => 0
  | n + 1 => smF g n + g n
/-- nobody else's lock and no rollout lies on the cell -/
def frF (f : Nat → Nat → Int32) (i j : Nat) (o : Int32) : Bool := !(heF (hoF f i 16) o || heF (hoF f i j) o) && decide (f 10 (16 * i + j) < 0)
/-- of a change to x, the cell k bars it -/
def barC (f : Nat → Nat → Int32) (x : Nat → Int32) (o : Int32) (k : Nat) : Bool := !decide (f 7 k = x k) && !frF f (k / 16) (k % 16) o
theorem barC_at {f : Nat → Nat → Int32} {x : Nat → Int32} {o : Int32} {i j : Nat} (hj : j < 16) : barC f x o (16 * i + j) = (!decide (f 7 (16 * i + j) = x (16 * i + j)) && !frF f i j o) := by
  unfold barC
  rw [show (16 * i + j) / 16 = i by omega, show (16 * i + j) % 16 = j by omega]
/-- the labels of the class's cells; A is what it may write -/
def CRl (A : Nat → Prop) (lab : Nat → Nat) (nm : Nat → Nat → Nat) (rf : Nat → Nat → Option Nat) (nC nL : Nat) : Prop :=
  (∀ q, lab q ≠ 0 → A q) ∧ lab (nm 0 0) = 1 ∧ lab (nm 1 0) = 2 ∧ lab (nm 1 1) = 3 ∧ lab (nm 1 2) = 4 ∧ lab (nm 9 0) = 8 ∧ lab (nm 9 1) = 9 ∧ (∀ j, j < nC → lab (nm 2 j) = 20 + j) ∧
  (∀ j, j < nL → lab (nm 3 j) = 40 + j ∧ lab (nm 4 j) = 60 + j ∧ lab (nm 5 j) = 80 + j ∧ lab (nm 6 j) = 100 + j) ∧
  ∀ i b, i < nL → b < 16 → ¬ rf i b = none → lab (nm 10 (16 * i + b)) = 200 + (16 * i + b) ∧ lab (nm 11 (16 * i + b)) = 10
theorem q_lt {C : ClassId} {a : Nat} {x : vp_A} {H : Heap} (h : H[a]? = some (vp_cell C x)) : a < H.size := (Array.getElem?_eq_some_iff.mp h).1
theorem LST.kept {D : va_G} {cA : Nat → ClassId} {lab : Nat → Nat} {kd z a n : Nat} {els : Nat → Nat} {H H1 : Heap} (h : LST D cA lab kd z a n els H) (hk : ∀ q, q < H.size → (q = a ∨ lab q = kd ∨ lab q = 10) → H1[q]? = H[q]?) : LST D cA lab kd z a n els H1 := by
  obtain ⟨mc, d, cap, f, h1, h2, h3, h4, h5, h6, h7⟩ := h
  refine ⟨mc, d, cap, f, va_at.kept h1 (hk a (va_at.lt h1) (Or.inl rfl)), fun h0 => (hk d (q_lt (h2 h0)) (Or.inr (Or.inl (h6 h0)))).trans (h2 h0), h3, h4, h5, h6, h7⟩
theorem ENT.kept {D : va_G} {cA : Nat → ClassId} {lab : Nat → Nat} {w : Nat} {x : Nat → Int32} {H H1 : Heap} (h : ENT D cA lab w x H) (h10 : ∀ q, q < H.size → lab q = 10 → H1[q]? = H[q]?) : ENT D cA lab w x H1 := by
  obtain ⟨ea, g, h1, h2, h3, h4, h5, h6⟩ := h
  refine ⟨ea, g, va_at.kept h1 (h10 w (va_at.lt h1) h4), (h10 ea (q_lt h2) h5).trans h2, fun k hk => ?_, h4, h5, h6⟩
  have h7 := h3 k hk
  cases hg : g k with
  | none => rw [hg] at h7; exact h7
  | some q =>
    rw [hg] at h7
    obtain ⟨b, f, s, e1, e2, e3⟩ := h7
    exact ⟨b, f, s, e1, e2, va_at.kept e3 (h10 q (va_at.lt e3) (h6 k q hk hg))⟩
/-- what happens at the inquiry's cells touches nothing else -/
theorem CRv.keptI {D : va_G} {cA : Nat → ClassId} {A : Nat → Prop} {lab : Nat → Nat} {nm : Nat → Nat → Nat} {rf : Nat → Nat → Option Nat} {f : Nat → Nat → Int32} {nC nL nV : Nat} {H H1 : Heap} (h : CRv D cA lab nm rf f nC nL nV H) (hl : CRl A lab nm rf nC nL) (hk : ∀ q, q < H.size → lab q ≠ 8 → lab q ≠ 9 → H1[q]? = H[q]?) : CRv D cA lab nm rf f nC nL nV H1 := by
  obtain ⟨hT, hLC, hLL, hLV, hC, hL, hHo, hRo, hCh, hRl, hEn⟩ := h
  obtain ⟨-, l1, l2, l3, l4, -, -, lC, lL, lR⟩ := hl
  have hkl : ∀ (q k : Nat), q < H.size → lab q = k → k ≠ 8 → k ≠ 9 → H1[q]? = H[q]? := fun q k h0 e h8 h9 => hk q h0 (by omega) (by omega)
  have h10 : ∀ q, q < H.size → lab q = 10 → H1[q]? = H[q]? := fun q h0 e => hkl q 10 h0 e (by omega) (by omega)
  have hls : ∀ (a k kd : Nat), lab a = k → k ≠ 8 → k ≠ 9 → kd ≠ 8 → kd ≠ 9 → ∀ q, q < H.size → (q = a ∨ lab q = kd ∨ lab q = 10) → H1[q]? = H[q]? := fun a k kd ha h8 h9 d8 d9 q h0 hq => by
    rcases hq with rfl | hq | hq
    · exact hkl _ k h0 ha h8 h9
    · exact hkl _ kd h0 hq d8 d9
    · exact h10 q h0 hq
  refine ⟨va_at.kept hT (hkl _ 1 (va_at.lt hT) l1 (by omega) (by omega)), hLC.kept (hls _ 2 5 l2 (by omega) (by omega) (by omega) (by omega)), hLL.kept (hls _ 3 6 l3 (by omega) (by omega) (by omega) (by omega)), hLV.kept (hls _ 4 7 l4 (by omega) (by omega) (by omega) (by omega)), fun j hj => va_at.kept (hC j hj) (hkl _ _ (va_at.lt (hC j hj)) (lC j hj) (by omega) (by omega)), fun j hj => va_at.kept (hL j hj) (hkl _ _ (va_at.lt (hL j hj)) (lL j hj).1 (by omega) (by omega)), fun j hj => (hkl _ _ (q_lt (hHo j hj)) (lL j hj).2.1 (by omega) (by omega)).trans (hHo j hj), fun j hj => (hkl _ _ (q_lt (hRo j hj)) (lL j hj).2.2.1 (by omega) (by omega)).trans (hRo j hj), fun j hj => (hkl _ _ (q_lt (hCh j hj)) (lL j hj).2.2.2 (by omega) (by omega)).trans (hCh j hj), fun j b hj hb => ?_, fun v hv => (hEn v hv).kept h10⟩
  rcases hRl j b hj hb with h | ⟨h1, h2, h3, h4⟩
  · exact Or.inl h
  · obtain ⟨q1, q2⟩ := lR j b hj hb (by rw [h1]; exact fun z => by cases z)
    refine Or.inr ⟨h1, h2, va_at.kept h3 (hkl _ _ (va_at.lt h3) q1 (by omega) (by omega)), ?_⟩
    obtain ⟨b4, f4, s4, e1, e2, e3⟩ := h4
    exact ⟨b4, f4, s4, e1, e2, va_at.kept e3 (h10 _ (va_at.lt e3) q2)⟩
