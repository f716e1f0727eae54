/-! the question's start and ends; comparing two longs -/
section XE
variable {p : Program} {l : Launch} {e : Env} {R : Room} {s : State} {m : MethodId} {args : Array Value} {below : List Frame} {meth : Method} {c : Code} {H : Heap} {locs : List Loc} {cells slots : Nat} {Q : State → Prop}
variable {pc : Nat} {ls : Array Slot} {rest : List Value} {cc : ByteArray}
theorem xe_lcmp (hexec : p.tables.exec = Jvm.exec) (hb : c.code = cc) {x y : Int64} (hdg : decode cc pc = .ok (.lcmp, 1))
    (k : ∀ v : Int32, (v = 0 ↔ x = y) → W p l e R s m args below meth c H locs cells slots Q (F0 m (pc + 1) ls (.int v :: rest))) : W p l e R s m args below meth c H locs cells slots Q (F0 m pc ls (.long y :: .long x :: rest)) := by
  intro T hT X
  rcases Int.lt_trichotomy x.toInt y.toInt with h | h | h
  · have h0 : x < y := Int64.lt_iff_toInt_lt.mpr h
    have h1 : ¬ y < x := by rw [Int64.lt_iff_toInt_lt]; omega
    have h2 : ¬ x = y := by intro q; rw [q] at h; omega
    obtain ⟨t, a, b⟩ := k (-1) ⟨fun q => absurd q (by decide), fun q => absurd q h2⟩ T hT X
    refine ⟨t, ?_, b⟩
    jvm_step X.here [X.here.top, hexec, hb, hdg, h1, h2]
    exact a
  · have h0 : x = y := Int64.toInt_inj.mp h
    subst h0
    obtain ⟨t, a, b⟩ := k 0 ⟨fun _ => rfl, fun _ => rfl⟩ T hT X
    refine ⟨t, ?_, b⟩
    jvm_step X.here [X.here.top, hexec, hb, hdg]
    exact a
  · have h1 : y < x := Int64.lt_iff_toInt_lt.mpr h
    have h2 : ¬ x = y := by intro q; rw [q] at h; omega
    obtain ⟨t, a, b⟩ := k 1 ⟨fun q => absurd q (by decide), fun q => absurd q h2⟩ T hT X
    refine ⟨t, ?_, b⟩
    jvm_step X.here [X.here.top, hexec, hb, hdg, h1]
    exact a
end XE
theorem nedS_6 (σ : MS) (nL c b : Nat) (w : Option Nat) (d : Nat) : (nedS σ nL c b w d).1 6 = σ.1 6 := by
  unfold nedS
  split
  · rfl
  · split
    · rfl
    · split <;> rfl
theorem fndS_6 (σ : MS) (n b : Nat) : (fndS σ n b).1 6 = σ.1 6 := by cases n <;> rfl
abbrev akE (σ : MS) (c : Nat) (w : Option Nat) (nL b : Nat) : ES × Option (Int32 × Int32) := ev (decE σ.2.1 c w nL) 17 b (0, 0, 0, fun _ => 0)
/-- of what is worked out: the status, the culprit, the value -/
def akT (E : ES × Option (Int32 × Int32)) : Int32 := match E.2 with
  | none => 0
  | some x => x.1
def akQ (E : ES × Option (Int32 × Int32)) : Int32 := match E.2 with
  | none => -1
  | some x => x.2
def akV (E : ES × Option (Int32 × Int32)) (b : Nat) : Int64 := match E.2 with
  | none => E.1.2.2.2 b
  | some _ => 0
section AKR
variable {E : ES × Option (Int32 × Int32)}
theorem akT_n (h : E.2 = none) : akT E = 0 := by unfold akT; rw [h]
theorem akQ_n (h : E.2 = none) : akQ E = -1 := by unfold akQ; rw [h]
theorem akV_n (h : E.2 = none) (b : Nat) : akV E b = E.1.2.2.2 b := by unfold akV; rw [h]
theorem akT_s {x : Int32 × Int32} (h : E.2 = some x) : akT E = x.1 := by unfold akT; rw [h]
theorem akQ_s {x : Int32 × Int32} (h : E.2 = some x) : akQ E = x.2 := by unfold akQ; rw [h]
theorem akV_s {x : Int32 × Int32} (h : E.2 = some x) (b : Nat) : akV E b = 0 := by unfold akV; rw [h]
end AKR
/-- behind asks -/
def akH (I : MS → Heap → Prop) (ρ : MS) (t25 : Int32) (E : ES × Option (Int32 × Int32)) : Heap → Prop := fun H => ∃ σ', I σ' H ∧ PE σ' ρ ∧ σ'.1 25 = t25 ∧ σ'.1 22 = E.1.1 ∧ σ'.1 23 = akT E ∧ σ'.1 24 = akQ E
/-- what a question's rows want of the entries that are shown -/
def dcOk (f : Nat → Nat → Int32) (nL : Nat) : Prop := ∀ (c : Nat) (w : Option Nat), c < 12 → (∀ v, w = some v → v ≤ 512) → ∀ b, b < 16 → decE f c w nL b ≠ 0 → vS (dF (decE f c w nL b)) ∧ vS (dS (decE f c w nL b))
def kFo (nC : Nat) (c b : Int32) : Int32 := if okN nC c && okS b then 0 else 1
def kAt (nC nV : Nat) (v c b : Int32) : Int32 := if okN (nV + 1) v && (okN nC c && okS b) then 0 else 1
def kVa (σ : MS) (nL nC : Nat) (c b : Int32) : Int32 := if kFo nC c b = 0 then (if akT (akE σ (ix c) none nL (ix b)) = 0 then 0 else 2) else kFo nC c b
def kVt (σ : MS) (nL nC nV : Nat) (v c b : Int32) : Int32 := if kAt nC nV v c b = 0 then (if akT (akE σ (ix c) (some (ix v)) nL (ix b)) = 0 then 0 else 2) else kAt nC nV v c b
/-- a set of settings by a test -/
def fnF (p : Nat → Bool) : Nat → Int32
  | 0 => 0
  | n + 1 => fnF p n ||| (if p n then bitI n else 0)
theorem fnF_t {p : Nat → Bool} {n : Nat} (h : p n = true) : fnF p (n + 1) = fnF p n ||| bitI n := by rw [fnF, if_pos h]
theorem fnF_f {p : Nat → Bool} {n : Nat} (h : p n = false) : fnF p (n + 1) = fnF p n ||| 0 := by rw [fnF, h]; rfl
/-- two answers differ -/
def difE (E F : ES × Option (Int32 × Int32)) (b : Nat) : Bool := if akT E = 0 then (if akT F = 0 then decide (akV E b ≠ akV F b) else true) else (if akT F = 0 then true else false)
def nwF (f : Nat → Nat → Int32) (c b nL : Nat) : Bool := match decO f c b none nL with
  | none => false
  | some j => rolF f c (16 * j + b) none
def kF1 (nC : Nat) (c : Int32) : Int32 := if okN nC c then 0 else 1
def kF2 (nC : Nat) (a b : Int32) : Int32 := if okN nC a && okN nC b then 0 else 1
