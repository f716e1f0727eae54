/-! the model's cells out of a list of cells -/
def mPos (k : Nat) : Nat := match k with
  | 0 => 1
  | 1 => 2
  | 3 => 3
  | 4 => 4
  | 5 => 5
  | 7 => 6
  | 8 => 7
  | 9 => 8
  | 10 => 9
  | 11 => 10
  | 12 => 11
  | 14 => 12
  | 15 => 13
  | 16 => 14
  | 17 => 15
  | 19 => 16
  | _ => 0
def adW (ws : va_W) (M k : Nat) : Nat := (ws.map (fun q => q.1)).getD (mPos k) M
theorem mPos_inj : ∀ j ∈ mAA, ∀ k ∈ mAA, mPos j = mPos k → j = k := by decide
theorem mPos_pos : ∀ j ∈ mAA, mPos j ≠ 0 := by decide
theorem mr_of {D : va_G} {cA : Nat → ClassId} {A : Nat → Prop} {M : Nat} {σ : MS} {H : Heap} (ws : va_W) (hP : va_P D vwCl ws H) (hD : va_D A ws) (h0 : ws[0]? = some (M, .inr (8, mF (adW ws M) σ.1)))
    (hi : ∀ k ∈ mIA, ws[mPos k]? = some (adW ws M k, .inl (cA 0, mLen k, .inl (σ.2.1 k)))) (hl : ∀ k ∈ mLA, ws[mPos k]? = some (adW ws M k, .inl (cA 1, mLen k, .inr (.inl (σ.2.2 k))))) : MR D cA A M (adW ws M) σ H := by
  have hall : ∀ k ∈ mAA, ∃ e, ws[mPos k]? = some (adW ws M k, e) := by
    intro k hk
    by_cases h : k ∈ mLA
    · exact ⟨_, hl k h⟩
    · refine ⟨_, hi k ?_⟩
      simp only [mIA, mLA, mAA, List.mem_cons, List.not_mem_nil, or_false] at hk h ⊢
      omega
  refine ⟨hP 0 _ h0, fun k hk => hP _ _ (hi k hk), fun k hk => hP _ _ (hl k hk), ⟨hD.2 0 _ h0, fun k => ?_⟩, fun k hk h => ?_, fun j k hj hk h => ?_⟩
  · unfold adW
    rw [List.getD_eq_getElem?_getD, List.getElem?_map]
    cases hq : ws[mPos k]? with
    | none => exact hD.2 0 _ h0
    | some q => exact hD.2 _ _ hq
  · obtain ⟨e, he⟩ := hall k hk
    exact mPos_pos k hk (hD.1 _ _ _ _ he h0 h)
  · obtain ⟨e1, he1⟩ := hall j hj
    obtain ⟨e2, he2⟩ := hall k hk
    exact mPos_inj j hj k hk (hD.1 _ _ _ _ he1 he2 h)
