/-! questions: the status, the culprit, the value in the model's words -/
section AKC
variable {E : ES × Option (Int32 × Int32)} {uw kn oc fa : Int32} {g : Nat → Int64}
theorem ak_oc (h1 : E.2 = none → uw = E.1.2.1 ∧ kn = E.1.2.2.1 ∧ oc = 0 ∧ fa = -1 ∧ ∀ j, j < 16 → tbF E.1.2.2.1 j = true → g j = E.1.2.2.2 j) (h2 : ∀ x, E.2 = some x → oc = x.1 ∧ fa = x.2) : oc = akT E := by
  unfold akT
  cases h : E.2 with
  | none => exact (h1 h).2.2.1
  | some x => exact (h2 x h).1
theorem ak_fa (h1 : E.2 = none → uw = E.1.2.1 ∧ kn = E.1.2.2.1 ∧ oc = 0 ∧ fa = -1 ∧ ∀ j, j < 16 → tbF E.1.2.2.1 j = true → g j = E.1.2.2.2 j) (h2 : ∀ x, E.2 = some x → oc = x.1 ∧ fa = x.2) : fa = akQ E := by
  unfold akQ
  cases h : E.2 with
  | none => exact (h1 h).2.2.2.1
  | some x => exact (h2 x h).2
end AKC
theorem ev_no0 (dec : Nat → Int32) : ∀ (d b : Nat) (z : ES) (x : Int32 × Int32), (ev dec d b z).2 = some x → ¬ x.1 = 0
  | 0, b, z, x, h => by
    have e : x = (2, nI b) := (Option.some.inj h).symm
    rw [e]
    show ¬ (2 : Int32) = 0
    decide
  | d + 1, b, z, x, h => by
    rw [ev] at h
    by_cases h1 : tbF z.2.2.1 b = true
    · rw [if_pos h1] at h; cases h
    · rw [if_neg h1] at h
      by_cases h2 : dec b = 0
      · rw [if_pos h2] at h
        have e : x = (1, nI b) := (Option.some.inj h).symm
        rw [e]
        show ¬ (1 : Int32) = 0
        decide
      · rw [if_neg h2] at h
        by_cases h3 : tbF z.2.1 b = true
        · rw [if_pos h3] at h
          have e : x = (2, nI b) := (Option.some.inj h).symm
          rw [e]
          show ¬ (2 : Int32) = 0
          decide
        · rw [if_neg h3] at h
          dsimp only at h
          generalize hr1 : (if dF (dec b) = -1 then ((z.1 ||| bitI b, z.2.1 ||| bitI b, z.2.2), none) else ev dec d (ix (dF (dec b))) (z.1 ||| bitI b, z.2.1 ||| bitI b, z.2.2) : ES × Option (Int32 × Int32)) = r1 at h
          have k1 : ∀ y, r1.2 = some y → ¬ y.1 = 0 := fun y hy => by
            rw [← hr1] at hy
            by_cases q : dF (dec b) = -1
            · rw [if_pos q] at hy; cases hy
            · rw [if_neg q] at hy; exact ev_no0 dec d _ _ y hy
          cases e1 : r1.2 with
          | some y => rw [e1] at h; cases h; exact k1 _ e1
          | none =>
            rw [e1] at h
            dsimp only at h
            generalize hr2 : (if dS (dec b) = -1 then (r1.1, none) else ev dec d (ix (dS (dec b))) r1.1 : ES × Option (Int32 × Int32)) = r2 at h
            have k2 : ∀ y, r2.2 = some y → ¬ y.1 = 0 := fun y hy => by
              rw [← hr2] at hy
              by_cases q : dS (dec b) = -1
              · rw [if_pos q] at hy; cases hy
              · rw [if_neg q] at hy; exact ev_no0 dec d _ _ y hy
            cases e2 : r2.2 with
            | some y => rw [e2] at h; cases h; exact k2 _ e2
            | none => rw [e2] at h; cases h
theorem ak_none {dec : Nat → Int32} {d b : Nat} {z : ES} (h : akT (ev dec d b z) = 0) : (ev dec d b z).2 = none := by
  cases e : (ev dec d b z).2 with
  | none => rfl
  | some x =>
    unfold akT at h
    rw [e] at h
    exact absurd h (ev_no0 dec d b z x e)
theorem ak_val {f : Nat → Nat → Int32} {nL c b : Nat} {w : Option Nat} {uw kn oc fa : Int32} {g : Nat → Int64} (hg : gdR f) (hc : c < 12) (hw : ∀ v, w = some v → v ≤ 512) (hb : b < 16) (h1 : (cvE f c w nL b).2 = none → uw = (cvE f c w nL b).1.2.1 ∧ kn = (cvE f c w nL b).1.2.2.1 ∧ oc = 0 ∧ fa = -1 ∧ ∀ j, j < 16 → tbF (cvE f c w nL b).1.2.2.1 j = true → g j = (cvE f c w nL b).1.2.2.2 j) (h2 : ∀ x, (cvE f c w nL b).2 = some x → oc = x.1 ∧ fa = x.2) (h0 : oc = 0) : g b = akV (cvE f c w nL b) b := by
  have ht : akT (cvE f c w nL b) = 0 := (ak_oc h1 h2).symm.trans h0
  have hn := ak_none ht
  rw [akV_n hn]
  exact (h1 hn).2.2.2.2 b hb (((ev_keep (decE f c w nL) (gdR.dc hg nL c w hc hw) 17 b (0, 0, 0, fun _ => 0) hb).2 hn).1)
