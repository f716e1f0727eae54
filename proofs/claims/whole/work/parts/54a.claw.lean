/-! the law's own calls of the class: what comes back, and what is caught -/
/-- two classes of exceptions are none of each other -/
def nK (U : State) : Prop := ∀ x ∈ xSelf, ∀ y ∈ xSelf, x ≠ y → va_Nc x y U
theorem nK.moved {u U : State} (hvm : u.vm.Alike U.vm) (h : nK u) : nK U := fun x hx y hy hne => va_Nc.moved hvm (h x hx y hy hne)
def lK (A : Nat → Prop) (z : Nat) (U : State) : Prop := pK A z U ∧ nK U
theorem lK.blind {A : Nat → Prop} {z : Nat} : FrameBlind (fun _ U => lK A z U) := fun a U g mk h => ⟨pK.blind a U g mk h.1, nK.moved (u := U) (by exact Vm.Alike.refl U.vm) h.2⟩
theorem lK.at {A B : Nat → Prop} {z : Nat} {s U : State} {H : Heap} {locs : List Loc} (h : lK A z s) (hS : va_S A s.heap H locs) (hAB : ∀ q, B q → A q) (hU : U.heap = H) (hW : s.WarmedH U.vm) : lK B z U := ⟨h.1.at hS hAB hU hW, h.2.moved hW.alike⟩
/-- a law's call ends with the code k: nothing thrown (v lies in out, P holds), or thrown (Q holds) -/
def lJ (cA : Nat → ClassId) (ou : Nat) (k : Int32) (v : Int64) (P Q : Heap → Prop) : Option Value → Heap → Prop := fun r H => r = some (.int k) ∧ ((k = 0 ∧ P H ∧ xL (cA 1) ou 1 (fun _ => v) H) ∨ (¬ k = 0 ∧ Q H ∧ ∃ o, xL (cA 1) ou 1 o H))
def lJ0 (k : Int32) (P Q : Heap → Prop) : Option Value → Heap → Prop := fun r H => r = some (.int k) ∧ ((k = 0 ∧ P H) ∨ (¬ k = 0 ∧ Q H))
def bL (b : Bool) : Int64 := if b then 1 else 0
section XLC
variable {p : Program} {l : Launch} {e : Env} {R : Room} {s : State} {m : MethodId} {args : Array Value} {below : List Frame} {meth : Method} {c : Code} {H : Heap} {locs : List Loc} {cells slots : Nat} {Qt : State → Prop}
variable {pc : Nat} {ls : Array Slot} {rest st0 : List Value} {a : Array Value} {A0 A1 : Nat → Prop} {H0 : Heap} {mc ms : Nat} {free : Addr → Prop}
theorem xl_call {k : Int32} {v : Option Value} {ex : Int32 → String} {P Q : Heap → Prop} (hr : vx_Run p l e R s m args below meth c H locs cells slots mc ms (F0 m pc ls st0) rest (xW (pJ k v P) A1 a) (xT k ex Q A1) free) (hS : va_S A0 H0 H locs) (hA : ∀ q, q < H.size → A1 q → A0 q) (hf : ∀ q, free q → A0 q)
    (kx : ¬ k = 0 → ∀ (ce : Cell) (q9 : Addr) (H1 : Heap) (locs1 : List Loc), Q H1 → H.size ≤ H1.size → (∀ q : Nat, q < H.size → ¬ A1 q → H1[q]? = H[q]?) → va_S A0 H0 H1 locs1 → H1[q9]? = some ce → ce.vm = .none → s.vm.findClass (ex k) = some ce.cls → vx_W p l e R s m args below meth c H1 locs1 (cells + mc) (slots + ms) Qt (F0 m pc ls rest) q9)
    (kk : k = 0 → ∀ (H1 : Heap) (locs1 : List Loc), P H1 → H.size ≤ H1.size → (∀ q : Nat, q < H.size → ¬ A1 q → H1[q]? = H[q]?) → va_S A0 H0 H1 locs1 → W p l e R s m args below meth c H1 locs1 (cells + mc) (slots + ms) Qt (F0 m (pc + 3) ls (v.toList ++ rest))) : W p l e R s m args below meth c H locs cells slots Qt (F0 m pc ls st0) := by
  intro T hT X
  rcases hr T hT X with ⟨v1, st₀, t, T', L, h0, X', hL, e1, e2, ⟨⟨r, hv, hk0, rfl, hP⟩, hF⟩, st⟩ | ⟨q, st₀, t, T', L, E, ce, h0, X', hL, e1, e2, ⟨hk0, rfl, hQ, hF⟩, hce, hcv, hcl, st⟩
  · cases hv
    obtain ⟨k1, k2, k3⟩ := vx_keep h0 e1 hS hA hf hL hF
    obtain ⟨t2, a1, b1⟩ := kk hk0 T'.heap (locs ++ L) (by rw [e1]; exact hP) k1 k2 k3 T' rfl X'
    exact ⟨t2, st t2 a1, b1⟩
  · obtain ⟨k1, k2, k3⟩ := vx_keep h0 e1 hS hA hf hL hF
    obtain ⟨t2, a1, b1⟩ := kx hk0 ce q T'.heap (locs ++ L) (by rw [e1]; exact hQ) k1 k2 k3 (by rw [e1]; exact hce) hcv hcl T' rfl X'
    exact ⟨t2, st.trans a1, b1⟩
end XLC
/-! which codes there are -/
def r1 (k : Int32) : Prop := k = 0 ∨ k = 1
def r2 (k : Int32) : Prop := k = 0 ∨ k = 1 ∨ k = 2
def r3 (k : Int32) : Prop := k = 0 ∨ k = 1 ∨ k = 2 ∨ k = 3
theorem kr_kCl (nC : Nat) (a b : Int32) : r2 (kCl nC a b) := by unfold kCl r2; split <;> (try split) <;> decide
theorem kr_kMv (nC : Nat) (c a b : Int32) : r2 (kMv nC c a b) := by unfold kMv r2; split <;> (try split) <;> decide
theorem kr_kLy (nL : Nat) (a b c : Int32) : r2 (kLy nL a b c) := by unfold kLy r2; split <;> (try split) <;> decide
theorem kr_kRk (nL : Nat) (a b : Int32) : r2 (kRk nL a b) := by unfold kRk r2; split <;> (try split) <;> decide
theorem kr_kLA (nL : Nat) (a : Int32) : r1 (kLA nL a) := by unfold kLA r1; split <;> decide
theorem kr_kAp (nL nC : Nat) (a b : Int32) : r1 (kAp nL nC a b) := by unfold kAp r1; split <;> decide
theorem kr_kCe (nL : Nat) (a b : Int32) : r1 (kCe nL a b) := by unfold kCe r1; split <;> decide
theorem kr_kIL (nL : Nat) (a b o : Int32) : r2 (kIL nL a b o) := by unfold kIL r2; split <;> (try split) <;> decide
theorem kr_wrF (σ : MS) (nL : Nat) (a b : Int32) (t : Bool) (o : Int32) (u : Bool) : r3 (wrF σ nL a b t o u) := by unfold wrF r3; split <;> (try split) <;> (try split) <;> decide
theorem kr_kRm (σ : MS) (nL : Nat) (a b o : Int32) : r3 (kRm σ nL a b o) := by
  have h := kr_wrF σ nL a b true o false
  unfold kRm
  split
  · unfold r3; split <;> decide
  · exact h
theorem kr_kAd (σ : MS) (nL : Nat) (a b c o : Int32) : r3 (kAd σ nL a b c o) := by
  have h := kr_wrF σ nL a b (inB c 1 100) o true
  unfold kAd
  split
  · unfold r3; split <;> decide
  · exact h
theorem kr_kLk (nL : Nat) (a b o : Int32) : r3 (kLk nL a b o) := by unfold kLk r3; split <;> (try split) <;> decide
theorem kr_kLo (σ : MS) (nL : Nat) (a b o : Int32) : r3 (kLo σ nL a b o) := by
  have h := kr_kLk nL a b o
  unfold kLo
  split
  · unfold r3; split <;> decide
  · exact h
theorem kr_kUn (σ : MS) (nL : Nat) (a b o : Int32) : r3 (kUn σ nL a b o) := by
  have h := kr_kLk nL a b o
  unfold kUn
  split
  · unfold r3; split <;> decide
  · exact h
theorem kr_kRo (σ : MS) (nV : Nat) (a o : Int32) : r3 (kRo σ nV a o) := by unfold kRo r3; split <;> (try split) <;> (try split) <;> decide
theorem kr_kFo (nC : Nat) (a b : Int32) : r1 (kFo nC a b) := by unfold kFo r1; split <;> decide
theorem kr_kAt (nC nV : Nat) (a b c : Int32) : r1 (kAt nC nV a b c) := by unfold kAt r1; split <;> decide
theorem kr_kVa (σ : MS) (nL nC : Nat) (a b : Int32) : r2 (kVa σ nL nC a b) := by
  have h := kr_kFo nC a b
  unfold kVa
  split
  · unfold r2; split <;> decide
  · unfold r2; rcases h with h | h <;> rw [h] <;> decide
theorem kr_kVt (σ : MS) (nL nC nV : Nat) (a b c : Int32) : r2 (kVt σ nL nC nV a b c) := by
  have h := kr_kAt nC nV a b c
  unfold kVt
  split
  · unfold r2; split <;> decide
  · unfold r2; rcases h with h | h <;> rw [h] <;> decide
theorem kr_kF1 (nC : Nat) (a : Int32) : r1 (kF1 nC a) := by unfold kF1 r1; split <;> decide
theorem kr_kF2 (nC : Nat) (a b : Int32) : r1 (kF2 nC a b) := by unfold kF2 r1; split <;> decide
