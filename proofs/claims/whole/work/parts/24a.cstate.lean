/-! the class's cells hold the model's state f; nm names their addresses by kind and place: 0 the object, 1 its lists, 2 clients, 3 layers, 4 holders, 5 rollouts, 6 changes, 7 versions, 8 their entries, 9 the inquiry and its values, 10 rollouts by cell, 11 their entries -/
def hoF (f : Nat → Nat → Int32) (j i : Nat) : Int32 := if i < 16 then f 11 (16 * j + i) else f 11 (128 + j)
def CRv (D : va_G) (cA : Nat → ClassId) (nm : Nat → Nat → Nat) (eo rf : Nat → Nat → Option Nat) (f : Nat → Nat → Int32) (nC nL nV : Nat) (H : Heap) : Prop :=
  xO D (nm 0 0) 7 [.ref (nm 1 0), .ref (nm 1 1), .ref (nm 1 2), .ref (nm 9 0), .ref (nm 7 nV)] H ∧
  LST D cA (nm 1 0) nC (nm 2) H ∧ LST D cA (nm 1 1) nL (nm 3) H ∧ LST D cA (nm 1 2) (nV + 1) (nm 7) H ∧
  (∀ j, j < nC → xO D (nm 2 j) 1 [.int (f 0 j), .int (f 1 j)] H) ∧
  (∀ j, j < nL → xO D (nm 3 j) 5 (lyV (nI j) (f 4 j) (f 5 j) (f 3 j) (nm 4 j) (nm 5 j) (nm 6 j)) H) ∧
  (∀ j, j < nL → xI (cA 0) (nm 4 j) 17 (hoF f j) H) ∧
  (∀ j, j < nL → xQ (cA 3) (nm 5 j) 16 (rf j) H) ∧
  (∀ j, j < nL → xI (cA 0) (nm 6 j) 16 (fun b => f 8 (16 * j + b)) H) ∧
  (∀ j b, j < nL → b < 16 → (rf j b = none ∧ f 10 (16 * j + b) = -1) ∨ (rf j b = some (nm 10 (16 * j + b)) ∧ 0 ≤ f 10 (16 * j + b) ∧ xO D (nm 10 (16 * j + b)) 6 [.ref (nm 11 (16 * j + b)), .int (f 10 (16 * j + b))] H ∧ eR D (some (nm 11 (16 * j + b))) (f 9 (16 * j + b)) H)) ∧
  (∀ v, v ≤ nV → xO D (nm 7 v) 2 [.ref (nm 8 v)] H ∧ xQ (cA 2) (nm 8 v) 128 (eo v) H ∧ ∀ k, k < 128 → eR D (eo v k) (f 12 (128 * v + k)) H)
/-- the numbers' bounds, and what the class keeps true of the state -/
def CRi (f : Nat → Nat → Int32) (nC nL nV : Nat) : Prop := nC ≤ 12 ∧ nL ≤ 8 ∧ nV ≤ 512 ∧ (∀ j, j < nL → f 4 j = 0 ∨ f 4 j = 1 ∨ f 4 j = 2 ∨ f 4 j = 3) ∧ gdR f ∧ (∀ k, k < 128 → f 7 k = f 12 (128 * nV + k)) ∧ ∀ v k, v ≤ nV → 16 * nL ≤ k → k < 128 → f 12 (128 * v + k) = 0
theorem slF_for {f : Nat → Nat → Int32} {a c : Nat} (h : f 4 a = 0 ∨ f 4 a = 1 ∨ f 4 a = 2 ∨ f 4 a = 3) : slF (f 4 a) (f 5 a) (f 0 c) (f 1 c) (nI c) = forF f a c := by
  unfold slF forF
  rfl
