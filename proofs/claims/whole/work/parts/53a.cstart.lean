/-! the class's first state -/
def nm0 (a q1 q2 q3 q4 q5 q6 z : Nat) : Nat → Nat → Nat
  | 0, _ => a
  | 1, 0 => q1
  | 1, 1 => q2
  | 1, _ => q3
  | 9, 0 => q4
  | 9, _ => q5
  | 7, _ => q6
  | _, _ => z
theorem st_CS {D : va_G} {cA : Nat → ClassId} {A : Nat → Prop} {z a q1 q2 q3 q4 q5 q6 q7 dq cap2 : Nat} {mc : Int32} {f2 : Nat → Option Nat} {f : Nat → Nat → Int32} {H : Heap} (hf : ∀ k, k < 128 → f 12 k = 0) (h1 : a < q1) (h2 : q1 < q2) (h3 : q2 < q3) (h4 : q3 < q4) (h5 : q4 < q5) (h6 : q5 < q6) (h7 : q6 < q7) (h8 : q7 < dq) (hA0 : A a) (hA : ∀ x, q1 ≤ x → A x) (hT : xO D a 7 [.ref q1, .ref q2, .ref q3, .ref q4, .ref q6] H) (hN1 : xO D q1 0 [.int 0, .ref z, .int 0] H) (hN2 : xO D q2 0 [.int 0, .ref z, .int 0] H) (hO9 : xO D q3 0 [.int mc, .ref dq, .int (nI (0 + 1))] H) (hQ9 : xQ (cA 4) dq cap2 f2 H) (r1 : 0 + 1 ≤ cap2) (r2 : cap2 ≤ 1000) (r4 : f2 0 = some q6) (hN4 : xO D q4 4 [.ref q5, .int 0, .null, .int 0, .int 0, .int 0, .int 0, .int 0, .int 0] H) (hN5 : xL (cA 1) q5 16 (fun _ => 0) H) (hN6 : xO D q6 2 [.ref q7] H) (hN7 : xQ (cA 2) q7 128 (fun _ => none) H) : CS D cA A z a f 0 0 0 H := by
  generalize hlb : lu (lu (lu (lu (lu (lu (lu (lu (lu (fun _ => 0) a 1) q1 2) q2 3) q3 4) q4 8) q5 9) q6 10) q7 10) dq 7 = lb
  have hlA : ∀ x, lb x ≠ 0 → A x := by
    rw [← hlb]
    exact lu_A (lu_A (lu_A (lu_A (lu_A (lu_A (lu_A (lu_A (lu_A (fun x hx => absurd rfl hx) hA0) (hA _ (by omega))) (hA _ (by omega))) (hA _ (by omega))) (hA _ (by omega))) (hA _ (by omega))) (hA _ (by omega))) (hA _ (by omega))) (hA _ (by omega))
  have la : lb a = 1 := by rw [← hlb, lu_un (by omega), lu_un (by omega), lu_un (by omega), lu_un (by omega), lu_un (by omega), lu_un (by omega), lu_un (by omega), lu_un (by omega), lu_at]
  have l1 : lb q1 = 2 := by rw [← hlb, lu_un (by omega), lu_un (by omega), lu_un (by omega), lu_un (by omega), lu_un (by omega), lu_un (by omega), lu_un (by omega), lu_at]
  have l2 : lb q2 = 3 := by rw [← hlb, lu_un (by omega), lu_un (by omega), lu_un (by omega), lu_un (by omega), lu_un (by omega), lu_un (by omega), lu_at]
  have l3 : lb q3 = 4 := by rw [← hlb, lu_un (by omega), lu_un (by omega), lu_un (by omega), lu_un (by omega), lu_un (by omega), lu_at]
  have l4 : lb q4 = 8 := by rw [← hlb, lu_un (by omega), lu_un (by omega), lu_un (by omega), lu_un (by omega), lu_at]
  have l5 : lb q5 = 9 := by rw [← hlb, lu_un (by omega), lu_un (by omega), lu_un (by omega), lu_at]
  have l6 : lb q6 = 10 := by rw [← hlb, lu_un (by omega), lu_un (by omega), lu_at]
  have l7 : lb q7 = 10 := by rw [← hlb, lu_un (by omega), lu_at]
  have ld : lb dq = 7 := by rw [← hlb, lu_at]
  refine ⟨lb, nm0 a q1 q2 q3 q4 q5 q6 z, fun _ _ => none, ⟨hT, ?_, ?_, ?_, fun j hj => absurd hj (Nat.not_lt_zero _), fun j hj => absurd hj (Nat.not_lt_zero _), fun j hj => absurd hj (Nat.not_lt_zero _), fun j hj => absurd hj (Nat.not_lt_zero _), fun j hj => absurd hj (Nat.not_lt_zero _), fun j b hj => absurd hj (Nat.not_lt_zero _), fun v hv => ?_⟩, ⟨hlA, la, l1, l2, l3, l4, l5, fun j hj => absurd hj (Nat.not_lt_zero _), fun j hj => absurd hj (Nat.not_lt_zero _), fun i b hi => absurd hi (Nat.not_lt_zero _)⟩, ⟨0, none, 0, 0, 0, 0, 0, 0, fun _ => 0, hN4, hN5⟩, rfl, rfl⟩
  · exact ⟨0, z, 0, fun _ => none, hN1, fun h => absurd h (Nat.lt_irrefl _), Nat.le_refl _, by omega, fun j hj => absurd hj (Nat.not_lt_zero _), fun h => absurd h (Nat.lt_irrefl _), fun _ => rfl⟩
  · exact ⟨0, z, 0, fun _ => none, hN2, fun h => absurd h (Nat.lt_irrefl _), Nat.le_refl _, by omega, fun j hj => absurd hj (Nat.not_lt_zero _), fun h => absurd h (Nat.lt_irrefl _), fun _ => rfl⟩
  · refine ⟨mc, dq, cap2, f2, hO9, fun _ => hQ9, r1, r2, fun j hj => ?_, fun _ => ld, fun e => by omega⟩
    have e : j = 0 := by omega
    subst e
    exact r4
  · have e : v = 0 := by omega
    subst e
    exact ⟨q7, fun _ => none, hN6, hN7, fun k hk => (show f 12 (128 * 0 + k) = 0 from by rw [show 128 * 0 + k = k by omega]; exact hf k hk), l6, l7, fun k q hk h => by cases h⟩
