/-! an entry as a number, and back -/
theorem e_b {b : Int32} (h : okB b = true) : ∃ B : Nat, B ≤ 19998 ∧ b = nI B - 9999 := by
  obtain ⟨h1, h2⟩ := inB_iff.mp h
  rw [Int32.le_iff_toInt_le] at h1 h2
  have e1 : (-9999 : Int32).toInt = -9999 := by decide
  have e2 : (9999 : Int32).toInt = 9999 := by decide
  have e3 : (b + 9999).toInt = b.toInt + 9999 := by
    rw [Int32.toInt_add, e2]
    exact Int.bmod_eq_of_le (by omega) (by omega)
  have h3 : okN 19999 (b + 9999) = true := by
    rw [okN_iff, Int32.le_iff_toInt_le, Int32.lt_iff_toInt_lt, e3, nI_toInt (by omega)]
    have e0 : (0 : Int32).toInt = 0 := by decide
    omega
  obtain ⟨B, hB, hb⟩ := okN_of (by omega) h3
  refine ⟨B, by omega, ?_⟩
  rw [← hb, Int32.add_sub_cancel]
theorem e_s {f : Int32} (h : vS f) : ∃ F : Nat, F ≤ 16 ∧ f = nI F - 1 := by
  rcases h with rfl | h
  · exact ⟨0, by omega, by decide⟩
  · obtain ⟨j, hj, rfl⟩ := okS_of h
    exact ⟨j + 1, by omega, by rw [← nI_1, Int32.add_sub_cancel]⟩
theorem enc_nI (B F S : Nat) : enc (nI B - 9999) (nI F - 1) (nI S - 1) = nI (B + 20000 * (F + 17 * S) + 1) := by
  unfold enc
  rw [Int32.sub_add_cancel, Int32.sub_add_cancel, Int32.add_assoc 1 (nI B - 9999) 9999, Int32.sub_add_cancel]
  rw [show (20000 : Int32) = nI 20000 from rfl, show (17 : Int32) = nI 17 from rfl, show (1 : Int32) = nI 1 from rfl]
  simp only [pk_mul, nI_add]
  congr 1
  omega
theorem dec_nI {B F S : Nat} (hB : B ≤ 19998) (hF : F ≤ 16) (hS : S ≤ 16) : dB (nI (B + 20000 * (F + 17 * S) + 1)) = nI B - 9999 ∧ dF (nI (B + 20000 * (F + 17 * S) + 1)) = nI F - 1 ∧ dS (nI (B + 20000 * (F + 17 * S) + 1)) = nI S - 1 := by
  have h1 : nI (B + 20000 * (F + 17 * S) + 1) - 1 = nI (B + 20000 * (F + 17 * S)) := by
    rw [← nI_1, Int32.add_sub_cancel]
  have h2 : nI (B + 20000 * (F + 17 * S)) / 20000 = nI (F + 17 * S) := by
    rw [show (20000 : Int32) = nI 20000 from rfl, pk_div (by omega) (by omega) (by omega)]
    congr 1
    omega
  refine ⟨?_, ?_, ?_⟩
  · unfold dB
    rw [h1, show (20000 : Int32) = nI 20000 from rfl, pk_rem (by omega) (by omega) (by omega)]
    congr 2
    omega
  · unfold dF
    rw [h1, h2, show (17 : Int32) = nI 17 from rfl, pk_rem (by omega) (by omega) (by omega)]
    congr 2
    omega
  · unfold dS
    rw [h1, h2, show (17 : Int32) = nI 17 from rfl, pk_div (by omega) (by omega) (by omega)]
    congr 2
    omega
/-- a good entry: a constant or a template -/
def gdT (b f s : Int32) : Prop := okB b = true ∧ ((f = -1 ∧ s = -1) ∨ okT f s = true)
theorem gdT.v {b f s : Int32} (h : gdT b f s) : vS f ∧ vS s := by
  rcases h.2 with ⟨rfl, rfl⟩ | h
  · exact ⟨Or.inl rfl, Or.inl rfl⟩
  · simp only [okT, Bool.and_eq_true, Bool.or_eq_true, decide_eq_true_eq] at h
    exact ⟨Or.inr h.1, h.2⟩
theorem enc_dec {b f s : Int32} (h : gdT b f s) : dB (enc b f s) = b ∧ dF (enc b f s) = f ∧ dS (enc b f s) = s ∧ 0 < enc b f s := by
  obtain ⟨B, hB, rfl⟩ := e_b h.1
  obtain ⟨F, hF, rfl⟩ := e_s h.v.1
  obtain ⟨S, hS, rfl⟩ := e_s h.v.2
  rw [enc_nI]
  obtain ⟨h1, h2, h3⟩ := dec_nI hB hF hS
  exact ⟨h1, h2, h3, nI_lt (a := 0) (by omega) (by omega)⟩
theorem enc_ne {b f s : Int32} (h : gdT b f s) : ¬ enc b f s = 0 := fun q => by
  have := (enc_dec h).2.2.2
  rw [q] at this
  exact absurd this (by decide)
theorem enc_inj {b f s b2 f2 s2 : Int32} (h : gdT b f s) (h2 : gdT b2 f2 s2) : enc b f s = enc b2 f2 s2 ↔ b = b2 ∧ f = f2 ∧ s = s2 := by
  constructor
  · intro q
    obtain ⟨a1, a2, a3, -⟩ := enc_dec h
    obtain ⟨c1, c2, c3, -⟩ := enc_dec h2
    rw [q] at a1 a2 a3
    exact ⟨a1.symm.trans c1, a2.symm.trans c2, a3.symm.trans c3⟩
  · rintro ⟨rfl, rfl, rfl⟩
    rfl
/-- a cell of the model's rows: nothing, or a good entry -/
def gdE (x : Int32) : Prop := x = 0 ∨ ∃ b f s, gdT b f s ∧ x = enc b f s
theorem gdE.v {x : Int32} (h : gdE x) (h0 : x ≠ 0) : vS (dF x) ∧ vS (dS x) := by
  rcases h with h | ⟨b, f, s, h, rfl⟩
  · exact absurd h h0
  · obtain ⟨-, e2, e3, -⟩ := enc_dec h
    rw [e2, e3]
    exact h.v
theorem gdE.pos {x : Int32} (h : gdE x) : 0 < x ↔ ¬ x = 0 := by
  rcases h with rfl | ⟨b, f, s, h, rfl⟩
  · exact ⟨fun q => absurd q (by decide), fun q => absurd rfl q⟩
  · exact ⟨fun _ => enc_ne h, fun _ => (enc_dec h).2.2.2⟩
/-- the rows that hold entries hold good ones -/
def gdR (f : Nat → Nat → Int32) : Prop := ∀ k, k = 7 ∨ k = 9 ∨ k = 12 → ∀ j, gdE (f k j)
theorem gdR.shw {f : Nat → Nat → Int32} (h : gdR f) (c k : Nat) (w : Option Nat) : gdE (shwF f c k w) := by
  unfold shwF
  split
  · exact h 9 (by omega) _
  · split
    · exact h 7 (by omega) _
    · exact h 12 (by omega) _
theorem gdR.dc {f : Nat → Nat → Int32} (h : gdR f) (nL : Nat) : dcOk f nL := by
  intro c w _ _ b _ h0
  unfold decE at h0 ⊢
  cases hd : decO f c b w nL with
  | none => rw [hd] at h0; exact absurd rfl h0
  | some j =>
    rw [hd] at h0
    exact (h.shw c (16 * j + b) w).v h0
/-- the reference o (or none) is the entry x -/
def eR (D : va_G) (o : Option Nat) (x : Int32) (H : Heap) : Prop := match o with
  | none => x = 0
  | some q => ∃ b f s, x = enc b f s ∧ gdT b f s ∧ xO D q 3 [.int b, .int f, .int s] H
theorem eR.n {D : va_G} {o : Option Nat} {x : Int32} {H : Heap} (h : eR D o x H) : o = none ↔ x = 0 := by
  cases o with
  | none => exact ⟨fun _ => h, fun _ => rfl⟩
  | some q =>
    obtain ⟨b, f, s, rfl, hg, -⟩ := h
    exact ⟨fun q => (by cases q), fun q => absurd q (enc_ne hg)⟩
theorem eR.gd {D : va_G} {o : Option Nat} {x : Int32} {H : Heap} (h : eR D o x H) : gdE x := by
  cases o with
  | none => exact Or.inl h
  | some q =>
    obtain ⟨b, f, s, rfl, hg, -⟩ := h
    exact Or.inr ⟨b, f, s, hg, rfl⟩
theorem eR.kept {D : va_G} {o : Option Nat} {x : Int32} {H H1 : Heap} (h : eR D o x H) (hq : ∀ q, o = some q → H1[q]? = H[q]?) : eR D o x H1 := by
  cases o with
  | none => exact h
  | some q =>
    obtain ⟨b, f, s, h1, hg, hO⟩ := h
    exact ⟨b, f, s, h1, hg, va_at.kept hO (hq q rfl)⟩
theorem anyF_of {p : Nat → Bool} {i : Nat} (h : p i = true) : ∀ {n : Nat}, i < n → anyF p n = true
  | n + 1, hi => by
    unfold anyF
    by_cases q : i = n
    · subst q; rw [h, Bool.or_true]
    · rw [anyF_of h (by omega), Bool.true_or]
/-- a lock on a setting, or on the layer as a whole, can be had -/
def cbF (hf : Nat → Int32) (v o : Int32) : Bool := if v = -1 then !anyF (fun k => heF (hf k) o) 17 else !(heF (hf 16) o || heF (hf (ix v)) o)
def neF (ov : Option Nat) (en : Nat) (k sh : Int32) : Option Nat := match ov with
  | none => none
  | some _ => if k < sh then some en else none
