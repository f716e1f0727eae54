/-! the places of the layers: a strict order, so each place is one layer's -/
theorem cnt_lt {p q : Nat → Bool} : ∀ {n : Nat}, (∀ k, k < n → p k = true → q k = true) → (∃ k, k < n ∧ q k = true ∧ p k = false) → cntF p n < cntF q n
  | 0, _, ⟨k, hk, _⟩ => absurd hk (Nat.not_lt_zero _)
  | n + 1, h, ⟨k, hk, h1, h2⟩ => by
    have hle : ∀ m, m ≤ n → cntF p m ≤ cntF q m := by
      intro m
      induction m with
      | zero => intro _; exact Nat.le_refl _
      | succ m ih =>
        intro hm
        have i1 := ih (by omega)
        cases hp : p m with
        | true => rw [cntF_t hp, cntF_t (h m (by omega) hp)]; omega
        | false =>
          cases hq : q m with
          | true => rw [cntF_f hp, cntF_t hq]; omega
          | false => rw [cntF_f hp, cntF_f hq]; omega
    by_cases e : k = n
    · subst e
      have i1 := hle k (Nat.le_refl _)
      rw [cntF_f h2, cntF_t h1]; omega
    · have i1 := cnt_lt (n := n) (fun j hj => h j (by omega)) ⟨k, by omega, h1, h2⟩
      cases hp : p n with
      | true => rw [cntF_t hp, cntF_t (h n (by omega) hp)]; omega
      | false =>
        cases hq : q n with
        | true => rw [cntF_f hp, cntF_t hq]; omega
        | false => rw [cntF_f hp, cntF_f hq]; omega
theorem ahd_iff {f : Nat → Int32} {a b : Nat} : ahd f a b = true ↔ (f b).toInt < (f a).toInt ∨ ((f a).toInt = (f b).toInt ∧ b < a) := by
  unfold ahd
  simp only [Bool.or_eq_true, Bool.and_eq_true, decide_eq_true_eq, Int32.lt_iff_toInt_lt, ← Int32.toInt_inj]
theorem ahd_irr {f : Nat → Int32} {a : Nat} : ahd f a a = false := by
  cases h : ahd f a a with
  | false => rfl
  | true => have := ahd_iff.mp h; omega
theorem plc_lt {f : Nat → Int32} {n a b : Nat} (ha : a < n) (h : ahd f a b = true) : plcF f n a < plcF f n b := by
  refine cnt_lt (fun k _ hk => ?_) ⟨a, ha, h, ahd_irr⟩
  have h1 := ahd_iff.mp h
  have h2 := ahd_iff.mp hk
  exact ahd_iff.mpr (by omega)
theorem plc_inj {f : Nat → Int32} {n a b : Nat} (ha : a < n) (hb : b < n) (h : plcF f n a = plcF f n b) : a = b := by
  by_cases e : a = b
  · exact e
  · by_cases h1 : ahd f a b = true
    · have := plc_lt ha h1; omega
    · have h2 : ahd f b a = true := by
        refine ahd_iff.mpr ?_
        have h3 : ¬ ((f b).toInt < (f a).toInt ∨ ((f a).toInt = (f b).toInt ∧ b < a)) := fun q => h1 (ahd_iff.mpr q)
        omega
      have := plc_lt hb h2; omega
theorem plc_n {f : Nat → Int32} {n a : Nat} (ha : a < n) : plcF f n a < n := by
  have h : plcF f n a < cntF (fun _ => true) n := cnt_lt (fun _ _ _ => rfl) ⟨a, ha, rfl, ahd_irr⟩
  have e : ∀ m, cntF (fun _ => true) m = m := by
    intro m
    induction m with
    | zero => rfl
    | succ m ih => rw [cntF_t rfl, ih]
  rw [e] at h
  exact h
theorem smF_one {F : Nat → Nat} {g : Nat} : ∀ n, smF (fun y => F y + if g = y then 1 else 0) n = smF F n + (if g < n then 1 else 0)
  | 0 => rfl
  | n + 1 => by
    rw [smF, smF, smF_one n]
    by_cases e : g = n
    · subst e
      rw [if_neg (Nat.lt_irrefl _), if_pos rfl, if_pos (Nat.lt_succ_self _)]; omega
    · by_cases e2 : g < n
      · rw [if_pos e2, if_neg e, if_pos (by omega)]; omega
      · rw [if_neg e2, if_neg e, if_neg (by omega)]; omega
theorem smF_cong {F G : Nat → Nat} : ∀ {n : Nat}, (∀ k, k < n → F k = G k) → smF F n = smF G n
  | 0, _ => rfl
  | n + 1, h => by rw [smF, smF, smF_cong (fun k hk => h k (by omega)), h n (by omega)]
theorem smF_hits {g : Nat → Nat} {n : Nat} : ∀ m, (∀ x, x < m → g x < n) → smF (fun y => cntF (fun x => decide (g x = y)) m) n = m
  | 0, _ => by
    have e : ∀ n, smF (fun y => cntF (fun x => decide (g x = y)) 0) n = 0 := by
      intro n
      induction n with
      | zero => rfl
      | succ n ih => rw [smF, ih]; rfl
    exact e n
  | m + 1, h => by
    have e : smF (fun y => cntF (fun x => decide (g x = y)) (m + 1)) n = smF (fun y => cntF (fun x => decide (g x = y)) m + if g m = y then 1 else 0) n := smF_cong (fun y _ => by
      by_cases q : g m = y
      · rw [cntF_t (by simp [q]), if_pos q]
      · rw [cntF_f (by simp [q]), if_neg q, Nat.add_zero])
    rw [e, smF_one, smF_hits m (fun x hx => h x (by omega)), if_pos (h m (by omega))]
theorem cnt_le1 {p : Nat → Bool} : ∀ {n : Nat}, (∀ a b, a < n → b < n → p a = true → p b = true → a = b) → cntF p n ≤ 1
  | 0, _ => Nat.zero_le _
  | n + 1, h => by
    cases hp : p n with
    | false => rw [cntF_f hp]; exact cnt_le1 (fun a b ha hb => h a b (by omega) (by omega))
    | true =>
      rw [cntF_t hp, cntF_no (fun k hk => ?_)]
      · exact Nat.le_refl _
      · cases hk2 : p k with
        | false => rfl
        | true => have := h k n (by omega) (by omega) hk2 hp; omega
theorem smF_small {F : Nat → Nat} : ∀ {n : Nat}, (∀ k, k < n → F k ≤ 1) → smF F n ≤ n
  | 0, _ => Nat.le_refl _
  | n + 1, h => by
    have h1 := smF_small (n := n) (fun k hk => h k (by omega))
    have h2 := h n (by omega)
    rw [smF]; omega
theorem smF_less {F : Nat → Nat} {y : Nat} : ∀ {n : Nat}, y < n → (∀ k, k < n → F k ≤ 1) → F y = 0 → smF F n < n
  | 0, hy, _, _ => absurd hy (Nat.not_lt_zero _)
  | n + 1, hy, h, h0 => by
    rw [smF]
    by_cases e : y = n
    · subst e
      have h1 := smF_small (n := y) (fun k hk => h k (by omega))
      omega
    · have h1 := smF_less (n := n) (by omega) (fun k hk => h k (by omega)) h0
      have h2 := h n (by omega)
      omega
/-- each place is some layer's -/
theorem plc_sur {f : Nat → Int32} {n y : Nat} (hy : y < n) : ∃ x, x < n ∧ plcF f n x = y := by
  refine Classical.byContradiction fun hc => ?_
  have hno : ∀ x, x < n → ¬ plcF f n x = y := fun x hx q => hc ⟨x, hx, q⟩
  have h1 := smF_hits (g := plcF f n) (n := n) n (fun x hx => plc_n hx)
  have h2 : smF (fun y => cntF (fun x => decide (plcF f n x = y)) n) n < n := smF_less hy (fun k _ => cnt_le1 (fun a b ha hb p1 p2 => by
    simp only [decide_eq_true_eq] at p1 p2
    exact plc_inj ha hb (p1.trans p2.symm))) (cntF_no (fun k hk => decide_eq_false (hno k hk)))
  omega
theorem lastF_at {p : Nat → Bool} {i : Nat} (h : p i = true) : ∀ {n : Nat}, i < n → (∀ j, j < n → p j = true → j = i) → lastF p n = nI i
  | 0, hi, _ => absurd hi (Nat.not_lt_zero _)
  | n + 1, hi, hu => by
    rw [lastF]
    by_cases e : p n = true
    · rw [if_pos e, hu n (by omega) e]
    · rw [if_neg e]
      have hi2 : i < n := by
        by_cases q : i = n
        · rw [q] at h; exact absurd h e
        · omega
      exact lastF_at h hi2 (fun j hj => hu j (by omega))
theorem nI_inj2 {a b : Nat} (ha : a < 65536) (hb : b < 65536) (h : nI a = nI b) : a = b := by
  have h1 := nI_clamp (n := a) (by omega)
  have h2 := nI_clamp (n := b) (by omega)
  rw [h, h2] at h1
  exact h1.symm
/-- the layer at a place -/
theorem ly_at {f : Nat → Int32} {n i : Nat} {v : Int32} (hn : n ≤ 8) (hi : i < n) (h : nI (plcF f n i) = v) : lyAt f n v = nI i ∧ okN n v = true := by
  have hp := plc_n (f := f) hi
  refine ⟨lastF_at (decide_eq_true h) hi (fun j hj hq => ?_), by rw [← h]; exact okN_nI (by omega) hp⟩
  have hq2 : nI (plcF f n j) = v := of_decide_eq_true hq
  have hpj := plc_n (f := f) hj
  exact plc_inj hj hi (nI_inj2 (by omega) (by omega) (hq2.trans h.symm))
theorem ly_no {f : Nat → Int32} {n : Nat} {v : Int32} (hn : n ≤ 8) (h : ∀ j, j < n → ¬ nI (plcF f n j) = v) : okN n v = false := by
  cases e : okN n v with
  | false => rfl
  | true =>
    obtain ⟨y, hy, rfl⟩ := okN_of (by omega) e
    obtain ⟨x, hx, q⟩ := plc_sur (f := f) hy
    exact absurd (by rw [q]) (h x hx)
