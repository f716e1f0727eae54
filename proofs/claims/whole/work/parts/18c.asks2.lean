/-! the question's start and ends -/
theorem nedS_6 (σ : MS) (nL c b : Nat) (w : Option Nat) (d : Nat) : (nedS σ nL c b w d).1 6 = σ.1 6 := by
  unfold nedS
  split
  · rfl
  · split
    · rfl
    · split <;> rfl
theorem fndS_6 (σ : MS) (n b : Nat) : (fndS σ n b).1 6 = σ.1 6 := by cases n <;> rfl
/-- behind asks -/
def akJ (I : MS → Heap → Prop) (σ : MS) (E : ES × Option (Int32 × Int32)) (b : Nat) : Option Value → Heap → Prop := fun r H => ∃ σ', I σ' H ∧ PE σ' σ ∧ σ'.1 25 = σ.1 25 ∧ σ'.1 22 = E.1.1 ∧ (E.2 = none → σ'.1 23 = 0 ∧ σ'.1 24 = -1 ∧ r = some (.long (E.1.2.2.2 b))) ∧ ∀ x, E.2 = some x → σ'.1 23 = x.1 ∧ σ'.1 24 = x.2 ∧ ¬ x.1 = 0 ∧ r = some (.long 0)
abbrev akE (σ : MS) (c : Nat) (w : Option Nat) (nL b : Nat) : ES × Option (Int32 × Int32) := ev (decE σ.2.1 c w nL) 17 b (0, 0, 0, fun _ => 0)
