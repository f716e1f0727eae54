/-! a question is worked out -/
def IQS (D : va_G) (cA : Nat → ClassId) (lab : Nat → Nat) (nm : Nat → Nat → Nat) (f : Nat → Nat → Int32) (ie c : Nat) (w : Option Nat) (lo uw kn oc fa : Int32) (g : Nat → Int64) (H : Heap) : Prop := INQ D cA lab nm f ie c w lo uw kn oc fa H ∧ xL (cA 1) (nm 9 1) 16 g H
abbrev A9 (nm : Nat → Nat → Nat) : Nat → Prop := fun q => q = nm 9 0 ∨ q = nm 9 1
def woR (E : ES × Option (Int32 × Int32)) : Int32 := match E.2 with
  | none => 1
  | some _ => 0
theorem woR_n {E : ES × Option (Int32 × Int32)} (h : E.2 = none) : woR E = 1 := by unfold woR; rw [h]
theorem woR_s {E : ES × Option (Int32 × Int32)} {x : Int32 × Int32} (h : E.2 = some x) : woR E = 0 := by unfold woR; rw [h]
/-- behind a step of the work: what E says -/
def woH (I : Heap → Prop) (Z : Int32 → Int32 → Int32 → Int32 → Int32 → (Nat → Int64) → Heap → Prop) (E : ES × Option (Int32 × Int32)) : Heap → Prop := fun H => I H ∧ ∃ uw kn oc fa g, Z E.1.1 uw kn oc fa g H ∧ (E.2 = none → uw = E.1.2.1 ∧ kn = E.1.2.2.1 ∧ oc = 0 ∧ fa = -1 ∧ ∀ j, j < 16 → tbF E.1.2.2.1 j = true → g j = E.1.2.2.2 j) ∧ ∀ x, E.2 = some x → oc = x.1 ∧ fa = x.2
/-- the settings of a template, one behind the other -/
def evP (dec : Nat → Int32) (d : Nat) (f s : Int32) (z : ES) : ES × Option (Int32 × Int32) :=
  match (if f = -1 then (z, none) else ev dec d (ix f) z) with
  | (z1, some x) => (z1, some x)
  | (z1, none) => if s = -1 then (z1, none) else ev dec d (ix s) z1
theorem evP_1s {dec : Nat → Int32} {d : Nat} {f s : Int32} {z : ES} {x : Int32 × Int32} (h : ¬ f = -1) (h2 : (ev dec d (ix f) z).2 = some x) : evP dec d f s z = ev dec d (ix f) z := by
  unfold evP
  rw [if_neg h]
  generalize ev dec d (ix f) z = R at h2
  obtain ⟨a, b⟩ := R
  cases h2
  rfl
theorem evP_1n {dec : Nat → Int32} {d : Nat} {f s : Int32} {z : ES} (h : ¬ f = -1) (h2 : (ev dec d (ix f) z).2 = none) : evP dec d f s z = if s = -1 then ((ev dec d (ix f) z).1, none) else ev dec d (ix s) (ev dec d (ix f) z).1 := by
  unfold evP
  rw [if_neg h]
  generalize ev dec d (ix f) z = R at h2
  obtain ⟨a, b⟩ := R
  cases h2
  rfl
theorem evP_0 {dec : Nat → Int32} {d : Nat} {f s : Int32} {z : ES} (h : f = -1) : evP dec d f s z = if s = -1 then (z, none) else ev dec d (ix s) z := by
  unfold evP
  rw [if_pos h]
theorem ev_p {dec : Nat → Int32} {d b : Nat} {z : ES} (h1 : ¬ tbF z.2.2.1 b = true) (h2 : ¬ dec b = 0) (h3 : ¬ tbF z.2.1 b = true) : ev dec (d + 1) b z = (match (evP dec d (dF (dec b)) (dS (dec b)) (z.1 ||| bitI b, z.2.1 ||| bitI b, z.2.2)).2 with
  | some x => ((evP dec d (dF (dec b)) (dS (dec b)) (z.1 ||| bitI b, z.2.1 ||| bitI b, z.2.2)).1, some x)
  | none => (finE (evP dec d (dF (dec b)) (dS (dec b)) (z.1 ||| bitI b, z.2.1 ||| bitI b, z.2.2)).1 b (dec b), none)) := by
  rw [ev, if_neg h1, if_neg h2, if_neg h3]
  unfold evP
  dsimp only
  by_cases hf : dF (dec b) = -1
  · rw [if_pos hf]
    dsimp only
    by_cases hs : dS (dec b) = -1
    · rw [if_pos hs]
      try rfl
    · rw [if_neg hs]
      try rfl
  · rw [if_neg hf]
    generalize ev dec d (ix (dF (dec b))) (z.1 ||| bitI b, z.2.1 ||| bitI b, z.2.2) = R
    obtain ⟨a, o⟩ := R
    cases o with
    | some x => rfl
    | none =>
      dsimp only
      by_cases hs : dS (dec b) = -1
      · rw [if_pos hs]
        try rfl
      · rw [if_neg hs]
        try rfl
