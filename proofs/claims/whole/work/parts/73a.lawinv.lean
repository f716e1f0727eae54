/-! the law's loop: what holds at its head; its calls -/
/-- the model's cells; the class's -/
def aM (h1 ou : Nat) : Nat → Prop := fun q => h1 ≤ q ∧ q < ou
def aC (h0 h1 ou : Nat) : Nat → Prop := fun q => h0 ≤ q ∧ ¬ (h1 ≤ q ∧ q < ou) ∧ q ≠ ou
def LI (D : va_G) (cA : Nat → ClassId) (h0 h1 ou z o M : Nat) (ad : Nat → Nat) (i : Nat) (H : Heap) : Prop := ou < H.size ∧ (∃ o1, xL (cA 1) ou 1 o1 H) ∧ ∃ (σ : MS) (nC nL nV : Nat), MR D cA (aM h1 ou) M ad σ H ∧ mN σ nC nL nV ∧ CS D cA (aC h0 h1 ou) z o σ.2.1 nC nL nV H ∧ CRi σ.2.1 nC nL nV ∧ nV ≤ i
theorem MR.keptA {D : va_G} {cA : Nat → ClassId} {A : Nat → Prop} {M : Nat} {ad : Nat → Nat} {σ : MS} {H H1 : Heap} (h : MR D cA A M ad σ H) (hk : ∀ q, q < H.size → A q → H1[q]? = H[q]?) : MR D cA A M ad σ H1 := by
  obtain ⟨h1, h2, h3, ⟨h4, h5⟩, h6, h7⟩ := h
  exact ⟨va_at.kept h1 (hk _ (x_lt h1) h4), fun k hk2 => (hk _ (q_lt (h2 k hk2)) (h5 k)).trans (h2 k hk2), fun k hk2 => (hk _ (q_lt (h3 k hk2)) (h5 k)).trans (h3 k hk2), ⟨h4, h5⟩, h6, h7⟩
theorem li_end {D : va_G} {cA : Nat → ClassId} {h0 h1 ou z o M : Nat} {ad : Nat → Nat} {i : Nat} {H : Heap} {σ2 τ : MS} {nC nL nV : Nat} (hs : ou < H.size) (ho : ∃ o1, xL (cA 1) ou 1 o1 H) (hM : MR D cA (aM h1 ou) M ad σ2 H) (hp : PE σ2 τ) (hn : mN τ nC nL nV) (hc : CS D cA (aC h0 h1 ou) z o τ.2.1 nC nL nV H) (hi : CRi τ.2.1 nC nL nV) (hv : nV ≤ i) : LI D cA h0 h1 ou z o M ad i H :=
  ⟨hs, ho, σ2, nC, nL, nV, hM, mN_pe hn hp, hc.pe hp.2, hi.cong (fun k hk => hp.2 k (by simp only [List.mem_cons, List.not_mem_nil, or_false] at hk ⊢; omega)), hv⟩
theorem LI.up {D : va_G} {cA : Nat → ClassId} {h0 h1 ou z o M : Nat} {ad : Nat → Nat} {i : Nat} {H : Heap} (h : LI D cA h0 h1 ou z o M ad i H) : LI D cA h0 h1 ou z o M ad (i + 1) H := by
  obtain ⟨a, b, σ, nC, nL, nV, c, d, e, f, g⟩ := h
  exact ⟨a, b, σ, nC, nL, nV, c, d, e, f, by omega⟩
theorem ni_inc7 (i : Nat) : nI (7 * i) + Int32.ofInt 7 = nI (7 * (i + 1)) := by
  rw [show 7 * (i + 1) = 7 * i + 7 by omega]
  exact nI_add (7 * i) 7
section KE
variable {r r0 : Option Value}
theorem kE_i {x : Int32} (h : kE r r0) (h0 : r0 = some (.int x)) : ∃ y, r = some (.int y) := by
  subst h0
  rcases h with ⟨-, h⟩ | ⟨h, -⟩ | ⟨-, y, h⟩
  · cases h
  · exact h
  · cases h
theorem kE_l {x : Int64} (h : kE r r0) (h0 : r0 = some (.long x)) : ∃ y, r = some (.long y) := by
  subst h0
  rcases h with ⟨-, h⟩ | ⟨-, y, h⟩ | ⟨h, -⟩
  · cases h
  · cases h
  · exact h
theorem kE_n (h : kE r r0) (h0 : r0 = none) : r = none := by
  subst h0
  rcases h with ⟨h, -⟩ | ⟨-, y, h⟩ | ⟨-, y, h⟩
  · exact h
  · cases h
  · cases h
end KE
section XLM
variable {p : Program} {l : Launch} {e : Env} {R : Room} {s : State} {m : MethodId} {args : Array Value} {below : List Frame} {meth : Method} {c : Code} {H : Heap} {locs : List Loc} {cells slots : Nat} {Q : State → Prop}
variable {pc : Nat} {ls : Array Slot} {rest st0 : List Value} {a : Array Value} {A0 A1 : Nat → Prop} {H0 : Heap} {mc ms : Nat} {D : va_G} {cA : Nat → ClassId} {M : Nat} {ad : Nat → Nat} {σ S : MS} {k : Int32}
/-- behind a call of the model: an int, a long, nothing -/
theorem xl_mint {X : Int32} (hr : va_Run p l e R s m args below meth c H locs cells slots 0 0 (F0 m pc ls st0) rest (xW (mJ D cA A1 M ad σ k (fun r τ => r = some (.int X) ∧ PE τ S)) A1 a) A1) (hS : va_S A0 H0 H locs) (hA : ∀ q, q < H.size → A1 q → A0 q) (hf : ∀ q, A1 q → A0 q)
    (kk : ∀ (y : Int32) (σ2 : MS) (H1 : Heap) (locs1 : List Loc), MR D cA A1 M ad σ2 H1 → σ2.1 25 = k → (¬ k = 0 → PE σ2 σ) → (k = 0 → y = X ∧ PE σ2 S) → H.size ≤ H1.size → (∀ q : Nat, q < H.size → ¬ A1 q → H1[q]? = H[q]?) → va_S A0 H0 H1 locs1 → W p l e R s m args below meth c H1 locs1 cells slots Q (F0 m (pc + 3) ls (.int y :: rest))) : W p l e R s m args below meth c H locs cells slots Q (F0 m pc ls st0) :=
  xw_call hr hS hA hf (fun r H1 locs1 hJ hz hk hS1 => by
    obtain ⟨σ2, g1, g2, g3, g4, r0, τ0, ⟨hr0, -⟩, hE⟩ := hJ
    obtain ⟨y, rfl⟩ := kE_i hE hr0
    exact kk y σ2 H1 locs1 g1 g2 g3 (fun h => ⟨by have q := (g4 h).1; cases q; rfl, (g4 h).2⟩) hz hk hS1)
theorem xl_mlong {X : Int64} (hr : va_Run p l e R s m args below meth c H locs cells slots 0 0 (F0 m pc ls st0) rest (xW (mJ D cA A1 M ad σ k (fun r τ => r = some (.long X) ∧ PE τ S)) A1 a) A1) (hS : va_S A0 H0 H locs) (hA : ∀ q, q < H.size → A1 q → A0 q) (hf : ∀ q, A1 q → A0 q)
    (kk : ∀ (y : Int64) (σ2 : MS) (H1 : Heap) (locs1 : List Loc), MR D cA A1 M ad σ2 H1 → σ2.1 25 = k → (¬ k = 0 → PE σ2 σ) → (k = 0 → y = X ∧ PE σ2 S) → H.size ≤ H1.size → (∀ q : Nat, q < H.size → ¬ A1 q → H1[q]? = H[q]?) → va_S A0 H0 H1 locs1 → W p l e R s m args below meth c H1 locs1 cells slots Q (F0 m (pc + 3) ls (.long y :: rest))) : W p l e R s m args below meth c H locs cells slots Q (F0 m pc ls st0) :=
  xw_call hr hS hA hf (fun r H1 locs1 hJ hz hk hS1 => by
    obtain ⟨σ2, g1, g2, g3, g4, r0, τ0, ⟨hr0, -⟩, hE⟩ := hJ
    obtain ⟨y, rfl⟩ := kE_l hE hr0
    exact kk y σ2 H1 locs1 g1 g2 g3 (fun h => ⟨by have q := (g4 h).1; cases q; rfl, (g4 h).2⟩) hz hk hS1)
theorem xl_mvoid (hr : va_Run p l e R s m args below meth c H locs cells slots 0 0 (F0 m pc ls st0) rest (xW (mJ D cA A1 M ad σ k (fun r τ => r = none ∧ PE τ S)) A1 a) A1) (hS : va_S A0 H0 H locs) (hA : ∀ q, q < H.size → A1 q → A0 q) (hf : ∀ q, A1 q → A0 q)
    (kk : ∀ (σ2 : MS) (H1 : Heap) (locs1 : List Loc), MR D cA A1 M ad σ2 H1 → σ2.1 25 = k → (¬ k = 0 → PE σ2 σ) → (k = 0 → PE σ2 S) → H.size ≤ H1.size → (∀ q : Nat, q < H.size → ¬ A1 q → H1[q]? = H[q]?) → va_S A0 H0 H1 locs1 → W p l e R s m args below meth c H1 locs1 cells slots Q (F0 m (pc + 3) ls rest)) : W p l e R s m args below meth c H locs cells slots Q (F0 m pc ls st0) :=
  xw_call hr hS hA hf (fun r H1 locs1 hJ hz hk hS1 => by
    obtain ⟨σ2, g1, g2, g3, g4, r0, τ0, ⟨hr0, -⟩, hE⟩ := hJ
    obtain rfl := kE_n hE hr0
    exact kk σ2 H1 locs1 g1 g2 g3 (fun h => (g4 h).2) hz hk hS1)
/-- behind a call of the law's own methods -/
theorem xl_lcall {ou : Nat} {v : Int64} {P Qx : Heap → Prop} {free : Addr → Prop} (hr : va_Run p l e R s m args below meth c H locs cells slots mc ms (F0 m pc ls st0) rest (xW (lJ cA ou k v P Qx) A1 a) free) (hS : va_S A0 H0 H locs) (hA : ∀ q, q < H.size → A1 q → A0 q) (hf : ∀ q, free q → A0 q)
    (kk : ∀ (H1 : Heap) (locs1 : List Loc), ((k = 0 ∧ P H1 ∧ xL (cA 1) ou 1 (fun _ => v) H1) ∨ (¬ k = 0 ∧ Qx H1 ∧ ∃ o, xL (cA 1) ou 1 o H1)) → H.size ≤ H1.size → (∀ q : Nat, q < H.size → ¬ A1 q → H1[q]? = H[q]?) → va_S A0 H0 H1 locs1 → W p l e R s m args below meth c H1 locs1 (cells + mc) (slots + ms) Q (F0 m (pc + 3) ls (.int k :: rest))) : W p l e R s m args below meth c H locs cells slots Q (F0 m pc ls st0) :=
  xw_call hr hS hA hf (fun r H1 locs1 hJ hz hk hS1 => by
    obtain ⟨rfl, hJ⟩ := hJ
    exact kk H1 locs1 hJ hz hk hS1)
theorem xl_lcall0 {P Qx : Heap → Prop} {free : Addr → Prop} (hr : va_Run p l e R s m args below meth c H locs cells slots mc ms (F0 m pc ls st0) rest (xW (lJ0 k P Qx) A1 a) free) (hS : va_S A0 H0 H locs) (hA : ∀ q, q < H.size → A1 q → A0 q) (hf : ∀ q, free q → A0 q)
    (kk : ∀ (H1 : Heap) (locs1 : List Loc), ((k = 0 ∧ P H1) ∨ (¬ k = 0 ∧ Qx H1)) → H.size ≤ H1.size → (∀ q : Nat, q < H.size → ¬ A1 q → H1[q]? = H[q]?) → va_S A0 H0 H1 locs1 → W p l e R s m args below meth c H1 locs1 (cells + mc) (slots + ms) Q (F0 m (pc + 3) ls (.int k :: rest))) : W p l e R s m args below meth c H locs cells slots Q (F0 m pc ls st0) :=
  xw_call hr hS hA hf (fun r H1 locs1 hJ hz hk hS1 => by
    obtain ⟨rfl, hJ⟩ := hJ
    exact kk H1 locs1 hJ hz hk hS1)
end XLM
section XNL
variable {p : Program} {l : Launch} {e : Env} {R : Room} {s : State} {m : MethodId} {args : Array Value} {below : List Frame} {meth : Method} {c : Code} {Q : State → Prop}
variable {pc : Nat} {st : List Value}
/-- a loop of at most N turns, each of which makes at most dc cells of ds slots -/
theorem w_loopN (I : Nat → Heap → List Loc → Array Slot → Prop) (N c0 s0 dc ds : Nat) (hN : ∀ i H locs ls, I i H locs ls → i ≤ N)
    (hs : ∀ (i : Nat) (H : Heap) (locs : List Loc) (ls : Array Slot), I i H locs ls → (∀ (H2 : Heap) (locs2 : List Loc) (ls2 : Array Slot), I (i + 1) H2 locs2 ls2 → W p l e R s m args below meth c H2 locs2 (c0 + dc * (i + 1)) (s0 + ds * (i + 1)) Q (F0 m pc ls2 st)) → W p l e R s m args below meth c H locs (c0 + dc * i) (s0 + ds * i) Q (F0 m pc ls st))
    (i : Nat) (H : Heap) (locs : List Loc) (ls : Array Slot) (h : I i H locs ls) : W p l e R s m args below meth c H locs (c0 + dc * i) (s0 + ds * i) Q (F0 m pc ls st) := by
  have key : ∀ (n i : Nat) (H : Heap) (locs : List Loc) (ls : Array Slot), N + 1 ≤ i + n → I i H locs ls → W p l e R s m args below meth c H locs (c0 + dc * i) (s0 + ds * i) Q (F0 m pc ls st) := by
    intro n
    induction n with
    | zero => intro i H locs ls h1 h2; have := hN i H locs ls h2; omega
    | succ n ih => intro i H locs ls h1 h2; exact hs i H locs ls h2 (fun H2 locs2 ls2 h3 => ih (i + 1) H2 locs2 ls2 (by omega) h3)
  exact key (N + 1) i H locs ls (by omega) h
end XNL
