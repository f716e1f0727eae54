/-! a question begins: the inquiry holds whatever it held -/
def IQ0 (D : va_G) (cA : Nat → ClassId) (nm : Nat → Nat → Nat) (H : Heap) : Prop := ∃ (ic : Int32) (en9 : Option Nat) (wr lo uw kn oc fa : Int32) (g : Nat → Int64), xO D (nm 9 0) 4 [.ref (nm 9 1), .int ic, va_rf en9, .int wr, .int lo, .int uw, .int kn, .int oc, .int fa] H ∧ xL (cA 1) (nm 9 1) 16 g H
theorem ENT.cong {D : va_G} {cA : Nat → ClassId} {lab : Nat → Nat} {w : Nat} {x y : Nat → Int32} {H : Heap} (h : ENT D cA lab w x H) (e : ∀ k, k < 128 → x k = y k) : ENT D cA lab w y H := by
  obtain ⟨ea, g, h1, h2, h3, h4⟩ := h
  exact ⟨ea, g, h1, h2, fun k hk => by rw [← e k hk]; exact h3 k hk, h4⟩
/-- what a question gives, from the start -/
abbrev cvE (f : Nat → Nat → Int32) (c : Nat) (w : Option Nat) (nL b : Nat) : ES × Option (Int32 × Int32) := ev (decE f c w nL) 17 b (0, 0, 0, fun _ => 0)
