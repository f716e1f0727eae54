/-! loops, numbers that are small naturals, the model's public contract -/
section XD
variable {p : Program} {l : Launch} {e : Env} {R : Room} {s : State} {m : MethodId} {args : Array Value} {below : List Frame} {meth : Method} {c : Code} {H : Heap} {locs : List Loc} {cells slots : Nat} {Q : State → Prop}
variable {pc : Nat} {ls : Array Slot} {rest st : List Value} {cc : ByteArray}
/-- a loop whose turns write: I is what holds at its head, μ falls -/
theorem w_loop {ι : Type} (I : ι → Heap → List Loc → Array Slot → Prop) (μ : ι → Nat)
    (hs : ∀ (x : ι) (H : Heap) (locs : List Loc) (ls : Array Slot), I x H locs ls → (∀ (y : ι) (H2 : Heap) (locs2 : List Loc) (ls2 : Array Slot), I y H2 locs2 ls2 → μ y < μ x → W p l e R s m args below meth c H2 locs2 cells slots Q (F0 m pc ls2 st)) → W p l e R s m args below meth c H locs cells slots Q (F0 m pc ls st))
    (x : ι) (h : I x H locs ls) : W p l e R s m args below meth c H locs cells slots Q (F0 m pc ls st) := by
  have key : ∀ (n : Nat) (x : ι) (H : Heap) (locs : List Loc) (ls : Array Slot), μ x < n → I x H locs ls → W p l e R s m args below meth c H locs cells slots Q (F0 m pc ls st) := by
    intro n
    induction n with
    | zero => intro x H locs ls h1; exact absurd h1 (Nat.not_lt_zero _)
    | succ n ih => intro x H locs ls h1 h2; exact hs x H locs ls h2 (fun y H2 locs2 ls2 h3 h4 => ih y H2 locs2 ls2 (by omega) h3)
  exact key _ x H locs ls (Nat.lt_succ_self _) h
/-- a loop that only reads -/
theorem w_loopR {ι : Type} (I : ι → Array Slot → Prop) (μ : ι → Nat)
    (hs : ∀ (x : ι) (ls : Array Slot), I x ls → (∀ (y : ι) (ls2 : Array Slot), I y ls2 → μ y < μ x → W p l e R s m args below meth c H locs cells slots Q (F0 m pc ls2 st)) → W p l e R s m args below meth c H locs cells slots Q (F0 m pc ls st))
    (x : ι) (h : I x ls) : W p l e R s m args below meth c H locs cells slots Q (F0 m pc ls st) := by
  have key : ∀ (n : Nat) (x : ι) (ls : Array Slot), μ x < n → I x ls → W p l e R s m args below meth c H locs cells slots Q (F0 m pc ls st) := by
    intro n
    induction n with
    | zero => intro x ls h1; exact absurd h1 (Nat.not_lt_zero _)
    | succ n ih => intro x ls h1 h2; exact hs x ls h2 (fun y ls2 h3 h4 => ih y ls2 (by omega) h3)
  exact key _ x ls (Nat.lt_succ_self _) h
theorem xe_iadd (hx : p.tables.exec = Jvm.exec) (hb : c.code = cc) {x y z : Int32} (h : x + y = z) (hdg : decode cc pc = .ok (.iadd, 1)) (k : W p l e R s m args below meth c H locs cells slots Q (F0 m (pc + 1) ls (.int z :: rest))) : W p l e R s m args below meth c H locs cells slots Q (F0 m pc ls (.int y :: .int x :: rest)) := by
  subst h; exact lv_iadd hx hb hdg k
theorem xe_isub (hx : p.tables.exec = Jvm.exec) (hb : c.code = cc) {x y z : Int32} (h : x - y = z) (hdg : decode cc pc = .ok (.isub, 1)) (k : W p l e R s m args below meth c H locs cells slots Q (F0 m (pc + 1) ls (.int z :: rest))) : W p l e R s m args below meth c H locs cells slots Q (F0 m pc ls (.int y :: .int x :: rest)) := by
  subst h; exact lv_isub hx hb hdg k
theorem xe_imul (hx : p.tables.exec = Jvm.exec) (hb : c.code = cc) {x y z : Int32} (h : x * y = z) (hdg : decode cc pc = .ok (.imul, 1)) (k : W p l e R s m args below meth c H locs cells slots Q (F0 m (pc + 1) ls (.int z :: rest))) : W p l e R s m args below meth c H locs cells slots Q (F0 m pc ls (.int y :: .int x :: rest)) := by
  subst h; exact lv_imul hx hb hdg k
theorem xe_idiv (hx : p.tables.exec = Jvm.exec) (hb : c.code = cc) {x y z : Int32} (hne : ¬ y = 0) (h : x / y = z) (hdg : decode cc pc = .ok (.idiv, 1)) (k : W p l e R s m args below meth c H locs cells slots Q (F0 m (pc + 1) ls (.int z :: rest))) : W p l e R s m args below meth c H locs cells slots Q (F0 m pc ls (.int y :: .int x :: rest)) := by
  subst h; exact lv_idiv hx hb hdg hne k
theorem xe_irem (hx : p.tables.exec = Jvm.exec) (hb : c.code = cc) {x y z : Int32} (hne : ¬ y = 0) (h : x - x / y * y = z) (hdg : decode cc pc = .ok (.irem, 1)) (k : W p l e R s m args below meth c H locs cells slots Q (F0 m (pc + 1) ls (.int z :: rest))) : W p l e R s m args below meth c H locs cells slots Q (F0 m pc ls (.int y :: .int x :: rest)) := by
  subst h; exact lv_irem hx hb hdg hne k
/-- a number on the stack under another name of it -/
theorem xe_top {x y : Int32} (h : x = y) (k : W p l e R s m args below meth c H locs cells slots Q (F0 m pc ls (.int y :: rest))) : W p l e R s m args below meth c H locs cells slots Q (F0 m pc ls (.int x :: rest)) := by
  subst h; exact k
end XD
theorem ni_inc (n : Nat) : nI n + Int32.ofInt 1 = nI (n + 1) := nI_1 n
/-- what lasts of the model's state from one call to the next -/
def PE (σ τ : MS) : Prop := (∀ k, k ∈ [2, 6, 13] → σ.1 k = τ.1 k) ∧ ∀ k, k ∈ [0, 1, 3, 4, 5, 7, 8, 9, 10, 11, 12] → σ.2.1 k = τ.2.1 k
theorem PE.rf {σ : MS} : PE σ σ := ⟨fun _ _ => rfl, fun _ _ => rfl⟩
theorem PE.tr {σ τ υ : MS} (h : PE σ τ) (h2 : PE τ υ) : PE σ υ := ⟨fun k q => (h.1 k q).trans (h2.1 k q), fun k q => (h.2 k q).trans (h2.2 k q)⟩
theorem PE.sy {σ τ : MS} (h : PE σ τ) : PE τ σ := ⟨fun k q => (h.1 k q).symm, fun k q => (h.2 k q).symm⟩
theorem PE.sg {σ τ : MS} (h : PE σ τ) (k : Nat) (x : Int32) (hk : k ∉ [2, 6, 13]) : PE (sg σ k x) τ := 
  ⟨fun j q => (show upd σ.1 k x j = σ.1 j from pk_un (fun z => hk (by rw [← z]; exact q))).trans (h.1 j q), h.2⟩
/-- of one kind: nothing, an int, a long -/
def kE (r r0 : Option Value) : Prop := (r = none ∧ r0 = none) ∨ ((∃ x, r = some (.int x)) ∧ ∃ y, r0 = some (.int y)) ∨ ((∃ x, r = some (.long x)) ∧ ∃ y, r0 = some (.long y))
/-- behind a public call of the model: k is what it threw; what it did and answered, where it threw nothing, says P -/
def mJ (D : va_G) (cA : Nat → ClassId) (A : Nat → Prop) (M : Nat) (ad : Nat → Nat) (σ : MS) (k : Int32) (P : Option Value → MS → Prop) : Option Value → Heap → Prop := fun r H => ∃ σ2 : MS, MR D cA A M ad σ2 H ∧ σ2.1 25 = k ∧ (¬ k = 0 → PE σ2 σ) ∧ (k = 0 → P r σ2) ∧ ∃ r0 τ0, P r0 τ0 ∧ kE r r0
theorem mJ_no {D : va_G} {cA : Nat → ClassId} {A : Nat → Prop} {M : Nat} {ad : Nat → Nat} {σ σ2 : MS} {k w : Int32} {P : Option Value → MS → Prop} {r : Option Value} {H : Heap} (hM : MR D cA A M ad σ2 H) (hk : k = w) (h0 : ¬ w = 0) (ht : σ2.1 25 = w) (hp : PE σ2 σ) (hE : ∃ r0 τ0, P r0 τ0 ∧ kE r r0 := by first | exact ⟨_, _, ⟨rfl, PE.rf⟩, Or.inl ⟨rfl, rfl⟩⟩ | exact ⟨_, _, ⟨rfl, PE.rf⟩, Or.inr (Or.inl ⟨⟨_, rfl⟩, _, rfl⟩)⟩ | exact ⟨_, _, ⟨rfl, PE.rf⟩, Or.inr (Or.inr ⟨⟨_, rfl⟩, _, rfl⟩)⟩) : mJ D cA A M ad σ k P r H := by
  subst hk
  exact ⟨σ2, hM, ht, fun _ => hp, fun h => absurd h h0, hE⟩
theorem mJ_ok {D : va_G} {cA : Nat → ClassId} {A : Nat → Prop} {M : Nat} {ad : Nat → Nat} {σ σ2 : MS} {k : Int32} {P : Option Value → MS → Prop} {r : Option Value} {H : Heap} (hM : MR D cA A M ad σ2 H) (hk : k = 0) (ht : σ2.1 25 = 0) (hp : P r σ2) (hE : kE r r := by first | exact Or.inl ⟨rfl, rfl⟩ | exact Or.inr (Or.inl ⟨⟨_, rfl⟩, _, rfl⟩) | exact Or.inr (Or.inr ⟨⟨_, rfl⟩, _, rfl⟩)) : mJ D cA A M ad σ k P r H := by
  subst hk
  exact ⟨σ2, hM, ht, fun h => absurd rfl h, fun _ => hp, r, σ2, hp, hE⟩
/-- the numbers of clients, layers, versions in a state of the model -/
def mN (σ : MS) (nC nL nV : Nat) : Prop := σ.1 2 = nI nC ∧ σ.1 6 = nI nL ∧ σ.1 13 = nI nV
