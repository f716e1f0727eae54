/-! behind the parts of a template both settings are known -/
theorem evP_known {dec : Nat → Int32} (hd : ∀ b, b < 16 → dec b ≠ 0 → vS (dF (dec b)) ∧ vS (dS (dec b))) {d : Nat} {f s : Int32} {z : ES} (hf : vS f) (hs : vS s) (h : (evP dec d f s z).2 = none) : (∀ j, j < 16 → f = nI j → tbF (evP dec d f s z).1.2.2.1 j = true) ∧ (∀ j, j < 16 → s = nI j → tbF (evP dec d f s z).1.2.2.1 j = true) ∧ (evP dec d f s z).1.2.1 = z.2.1 := by
  have second : ∀ (z1 : ES) (E : ES × Option (Int32 × Int32)), E = (if s = -1 then (z1, none) else ev dec d (ix s) z1) → E.2 = none → (∀ j, j < 16 → tbF z1.2.2.1 j = true → tbF E.1.2.2.1 j = true) ∧ (∀ j, j < 16 → s = nI j → tbF E.1.2.2.1 j = true) ∧ E.1.2.1 = z1.2.1 := by
    intro z1 E hE hn
    by_cases hm : s = -1
    · rw [if_pos hm] at hE
      subst hE
      exact ⟨fun j _ hj => hj, fun j hj q => absurd (q.symm.trans hm) (nI_m1 (by omega)), rfl⟩
    · rw [if_neg hm] at hE
      obtain ⟨j2, hj2, e2⟩ := okS_of (hs.resolve_left hm)
      rw [e2, ix_nI (by omega)] at hE
      subst hE
      have k := ev_keep dec hd d j2 z1 hj2
      obtain ⟨k1, k2⟩ := k.2 hn
      refine ⟨fun j hj q => (k.1 j hj q).1, fun j hj q => ?_, k2⟩
      have : j = j2 := by
        have q2 := congrArg ix (q.symm.trans e2)
        rw [ix_nI (by omega), ix_nI (by omega)] at q2
        exact q2
      subst this
      exact k1
  by_cases hm : f = -1
  · rw [evP_0 hm] at h ⊢
    obtain ⟨a1, a2, a3⟩ := second z _ rfl h
    exact ⟨fun j hj q => absurd (q.symm.trans hm) (nI_m1 (by omega)), a2, a3⟩
  · obtain ⟨j1, hj1, e1⟩ := okS_of (hf.resolve_left hm)
    cases hE : (ev dec d (ix f) z).2 with
    | some x =>
      rw [evP_1s hm hE] at h
      rw [h] at hE
      cases hE
    | none =>
      have xe : ix f = j1 := by rw [e1, ix_nI (by omega)]
      rw [evP_1n hm hE] at h ⊢
      rw [xe] at h hE ⊢
      obtain ⟨a1, a2, a3⟩ := second _ _ rfl h
      have k := ev_keep dec hd d j1 z hj1
      obtain ⟨k1, k2⟩ := k.2 hE
      refine ⟨fun j hj q => ?_, a2, a3.trans k2⟩
      have hj1 : j = j1 := by
        have q2 := congrArg ix (q.symm.trans e1)
        rw [ix_nI (by omega), ix_nI (by omega)] at q2
        exact q2
      subst hj1
      exact a1 j hj k1
theorem partF_eq {g h : Nat → Int64} {x : Int32} {f : Int32} (hf : vS f) (hk : ∀ j, j < 16 → f = nI j → tbF x j = true) (hg : ∀ j, j < 16 → tbF x j = true → g j = h j) : partF g f = partF h f := by
  unfold partF
  by_cases hm : f = -1
  · rw [if_pos hm, if_pos hm]
  · rw [if_neg hm, if_neg hm]
    obtain ⟨j, hj, e⟩ := okS_of (hf.resolve_left hm)
    rw [e, ix_nI (by omega)]
    exact hg j hj (hk j hj e)
