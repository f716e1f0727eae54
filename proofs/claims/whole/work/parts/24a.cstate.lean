/-! the class's cells hold the model's state f; nm names their addresses by kind and place: 0 the object, 1 its lists, 2 clients, 3 layers, 4 holders, 5 rollouts, 6 changes, 7 versions, 9 the inquiry and its values, 10 rollouts by cell, 11 their entries -/
def hoF (f : Nat → Nat → Int32) (j i : Nat) : Int32 := if i < 16 then f 11 (16 * j + i) else f 11 (128 + j)
/-- the entries of a version at w: x by cell -/
def ENT (D : va_G) (cA : Nat → ClassId) (w : Nat) (x : Nat → Int32) (H : Heap) : Prop := ∃ (ea : Nat) (g : Nat → Option Nat), xO D w 2 [.ref ea] H ∧ xQ (cA 2) ea 128 g H ∧ ∀ k, k < 128 → eR D (g k) (x k) H
def CRv (D : va_G) (cA : Nat → ClassId) (nm : Nat → Nat → Nat) (rf : Nat → Nat → Option Nat) (f : Nat → Nat → Int32) (nC nL nV : Nat) (H : Heap) : Prop :=
  xO D (nm 0 0) 7 [.ref (nm 1 0), .ref (nm 1 1), .ref (nm 1 2), .ref (nm 9 0), .ref (nm 7 nV)] H ∧
  LST D cA (nm 1 0) nC (nm 2) H ∧ LST D cA (nm 1 1) nL (nm 3) H ∧ LST D cA (nm 1 2) (nV + 1) (nm 7) H ∧
  (∀ j, j < nC → xO D (nm 2 j) 1 [.int (f 0 j), .int (f 1 j)] H) ∧
  (∀ j, j < nL → xO D (nm 3 j) 5 (lyV (nI j) (f 4 j) (f 5 j) (f 3 j) (nm 4 j) (nm 5 j) (nm 6 j)) H) ∧
  (∀ j, j < nL → xI (cA 0) (nm 4 j) 17 (hoF f j) H) ∧
  (∀ j, j < nL → xQ (cA 3) (nm 5 j) 16 (rf j) H) ∧
  (∀ j, j < nL → xI (cA 0) (nm 6 j) 16 (fun b => f 8 (16 * j + b)) H) ∧
  (∀ j b, j < nL → b < 16 → (rf j b = none ∧ f 10 (16 * j + b) = -1) ∨ (rf j b = some (nm 10 (16 * j + b)) ∧ 0 ≤ f 10 (16 * j + b) ∧ xO D (nm 10 (16 * j + b)) 6 [.ref (nm 11 (16 * j + b)), .int (f 10 (16 * j + b))] H ∧ eR D (some (nm 11 (16 * j + b))) (f 9 (16 * j + b)) H)) ∧
  (∀ v, v ≤ nV → ENT D cA (nm 7 v) (fun k => f 12 (128 * v + k)) H)
/-- the numbers' bounds, and what the class keeps true of the state -/
def CRi (f : Nat → Nat → Int32) (nC nL nV : Nat) : Prop := nC ≤ 12 ∧ nL ≤ 8 ∧ nV ≤ 512 ∧ (∀ j, j < nL → f 4 j = 0 ∨ f 4 j = 1 ∨ f 4 j = 2 ∨ f 4 j = 3) ∧ gdR f ∧ (∀ k, k < 128 → f 7 k = f 12 (128 * nV + k)) ∧ (∀ v k, v ≤ nV → 16 * nL ≤ k → k < 128 → f 12 (128 * v + k) = 0) ∧ (∀ k, 0 ≤ f 11 k) ∧ (∀ k, 16 * nL ≤ k → k < 128 → f 11 k = 0) ∧ ∀ j, nL ≤ j → j < 8 → f 11 (128 + j) = 0
theorem slF_for {f : Nat → Nat → Int32} {a c : Nat} (h : f 4 a = 0 ∨ f 4 a = 1 ∨ f 4 a = 2 ∨ f 4 a = 3) : slF (f 4 a) (f 5 a) (f 0 c) (f 1 c) (nI c) = forF f a c := by
  unfold slF forF
  rfl
/-- a sum -/
def smF (g : Nat → Nat) : Nat → Nat
  | 0 => 0
  | n + 1 => smF g n + g n
/-- nobody else's lock and no rollout lies on the cell -/
def frF (f : Nat → Nat → Int32) (i j : Nat) (o : Int32) : Bool := !(heF (hoF f i 16) o || heF (hoF f i j) o) && decide (f 10 (16 * i + j) < 0)
/-- of a change to x, the cell k bars it -/
def barC (f : Nat → Nat → Int32) (x : Nat → Int32) (o : Int32) (k : Nat) : Bool := !decide (f 7 k = x k) && !frF f (k / 16) (k % 16) o
theorem barC_at {f : Nat → Nat → Int32} {x : Nat → Int32} {o : Int32} {i j : Nat} (hj : j < 16) : barC f x o (16 * i + j) = (!decide (f 7 (16 * i + j) = x (16 * i + j)) && !frF f i j o) := by
  unfold barC
  rw [show (16 * i + j) / 16 = i by omega, show (16 * i + j) % 16 = j by omega]
