/-! the class's state as a whole: how it is carried over writes and new cells; what a public call ends with -/
theorem ENT.relab {D : va_G} {cA : Nat → ClassId} {lab lab' : Nat → Nat} {w : Nat} {x : Nat → Int32} {H : Heap} (h : ENT D cA lab w x H) (hl : ∀ q, q < H.size → lab' q = lab q) : ENT D cA lab' w x H := by
  obtain ⟨ea, g, h1, h2, h3, h4, h5, h6⟩ := h
  refine ⟨ea, g, h1, h2, h3, (hl w (va_at.lt h1)).trans h4, (hl ea (q_lt h2)).trans h5, fun k q hk hg => ?_⟩
  have h7 := h3 k hk
  rw [hg] at h7
  obtain ⟨b, f, s, e1, e2, e3⟩ := h7
  exact (hl q (va_at.lt e3)).trans (h6 k q hk hg)
theorem LST.relab {D : va_G} {cA : Nat → ClassId} {lab lab' : Nat → Nat} {kd z a n : Nat} {els : Nat → Nat} {H : Heap} (h : LST D cA lab kd z a n els H) (hl : ∀ q, q < H.size → lab' q = lab q) : LST D cA lab' kd z a n els H := by
  obtain ⟨mc, d, cap, f, h1, h2, h3, h4, h5, h6, h7⟩ := h
  exact ⟨mc, d, cap, f, h1, h2, h3, h4, h5, fun h0 => (hl d (q_lt (h2 h0))).trans (h6 h0), h7⟩
/-- what of the state no write at the labels w has touched -/
def CRx (D : va_G) (cA : Nat → ClassId) (lab : Nat → Nat) (nm : Nat → Nat → Nat) (rf : Nat → Nat → Option Nat) (f : Nat → Nat → Int32) (nC nL nV : Nat) (w : Nat → Prop) (H : Heap) : Prop :=
  (¬ w 1 → xO D (nm 0 0) 7 [.ref (nm 1 0), .ref (nm 1 1), .ref (nm 1 2), .ref (nm 9 0), .ref (nm 7 nV)] H) ∧
  (¬ w 2 → ¬ w 5 → LST D cA lab 5 (nm 12 0) (nm 1 0) nC (nm 2) H) ∧ (¬ w 3 → ¬ w 6 → LST D cA lab 6 (nm 12 0) (nm 1 1) nL (nm 3) H) ∧ (¬ w 4 → ¬ w 7 → LST D cA lab 7 (nm 12 0) (nm 1 2) (nV + 1) (nm 7) H) ∧
  (∀ j, j < nC → ¬ w (20 + j) → xO D (nm 2 j) 1 [.int (f 0 j), .int (f 1 j)] H) ∧
  (∀ j, j < nL → ¬ w (40 + j) → xO D (nm 3 j) 5 (lyV (nI j) (f 4 j) (f 5 j) (f 3 j) (nm 4 j) (nm 5 j) (nm 6 j)) H) ∧
  (∀ j, j < nL → ¬ w (60 + j) → xI (cA 0) (nm 4 j) 17 (hoF f j) H) ∧
  (∀ j, j < nL → ¬ w (80 + j) → xQ (cA 3) (nm 5 j) 16 (rf j) H) ∧
  (∀ j, j < nL → ¬ w (100 + j) → xI (cA 0) (nm 6 j) 16 (fun b => f 8 (16 * j + b)) H) ∧
  (∀ j b, j < nL → b < 16 → ¬ w (200 + (16 * j + b)) → (rf j b = none ∧ f 10 (16 * j + b) = -1) ∨ (rf j b = some (nm 10 (16 * j + b)) ∧ 0 ≤ f 10 (16 * j + b) ∧ xO D (nm 10 (16 * j + b)) 6 [.ref (nm 11 (16 * j + b)), .int (f 10 (16 * j + b))] H ∧ eR D (some (nm 11 (16 * j + b))) (f 9 (16 * j + b)) H)) ∧
  (∀ v, v ≤ nV → ENT D cA lab (nm 7 v) (fun k => f 12 (128 * v + k)) H) ∧ (¬ w 8 → ¬ w 9 → IQ0 D cA nm H)
theorem CRv.keptX {D : va_G} {cA : Nat → ClassId} {A : Nat → Prop} {lab lab' : Nat → Nat} {nm : Nat → Nat → Nat} {rf : Nat → Nat → Option Nat} {f : Nat → Nat → Int32} {nC nL nV : Nat} {H H1 : Heap} (h : CRv D cA lab nm rf f nC nL nV H) (hl : CRl A lab nm rf nC nL) (hq : IQ0 D cA nm H) (w : Nat → Prop) (h10 : ¬ w 10)
    (hk : ∀ q, q < H.size → lab q ≠ 0 → ¬ w (lab q) → H1[q]? = H[q]?) (hlab : ∀ q, q < H.size → lab' q = lab q) : CRx D cA lab' nm rf f nC nL nV w H1 := by
  obtain ⟨hT, hLC, hLL, hLV, hC, hL, hHo, hRo, hCh, hRl, hEn⟩ := h
  obtain ⟨-, l1, l2, l3, l4, l8, l9, lC, lL, lR⟩ := hl
  have hkl : ∀ (q k : Nat), q < H.size → lab q = k → k ≠ 0 → ¬ w k → H1[q]? = H[q]? := fun q k h0 e k0 kw => hk q h0 (by rw [e]; exact k0) (by rw [e]; exact kw)
  have hks : ∀ q, q < H.size → lab q = 10 → H1[q]? = H[q]? := fun q h0 e => hkl q 10 h0 e (by omega) h10
  have hls : ∀ (a k kd : Nat), lab a = k → k ≠ 0 → kd ≠ 0 → ¬ w k → ¬ w kd → ∀ q, q < H.size → (q = a ∨ lab' q = kd ∨ lab' q = 10) → H1[q]? = H[q]? := fun a k kd ha k0 d0 hw hd q h0 hq => by
    rw [hlab q h0] at hq
    rcases hq with rfl | hq | hq
    · exact hkl _ k h0 ha k0 hw
    · exact hkl _ kd h0 hq d0 hd
    · exact hks q h0 hq
  refine ⟨fun w1 => va_at.kept hT (hkl _ 1 (va_at.lt hT) l1 (by omega) w1), fun w2 w5 => (hLC.relab hlab).kept (hls _ 2 5 l2 (by omega) (by omega) w2 w5), fun w3 w6 => (hLL.relab hlab).kept (hls _ 3 6 l3 (by omega) (by omega) w3 w6), fun w4 w7 => (hLV.relab hlab).kept (hls _ 4 7 l4 (by omega) (by omega) w4 w7), fun j hj hw => va_at.kept (hC j hj) (hkl _ _ (va_at.lt (hC j hj)) (lC j hj) (by omega) hw), fun j hj hw => va_at.kept (hL j hj) (hkl _ _ (va_at.lt (hL j hj)) (lL j hj).1 (by omega) hw), fun j hj hw => (hkl _ _ (q_lt (hHo j hj)) (lL j hj).2.1 (by omega) hw).trans (hHo j hj), fun j hj hw => (hkl _ _ (q_lt (hRo j hj)) (lL j hj).2.2.1 (by omega) hw).trans (hRo j hj), fun j hj hw => (hkl _ _ (q_lt (hCh j hj)) (lL j hj).2.2.2 (by omega) hw).trans (hCh j hj), fun j b hj hb hw => ?_, fun v hv => ((hEn v hv).relab hlab).kept (fun q h0 e => hks q h0 (by rw [← hlab q h0]; exact e)), fun w8 w9 => ?_⟩
  · rcases hRl j b hj hb with h | ⟨h1, h2, h3, h4⟩
    · exact Or.inl h
    · obtain ⟨q1, q2⟩ := lR j b hj hb (by rw [h1]; exact fun z => by cases z)
      refine Or.inr ⟨h1, h2, va_at.kept h3 (hkl _ _ (va_at.lt h3) q1 (by omega) hw), ?_⟩
      obtain ⟨b4, f4, s4, e1, e2, e3⟩ := h4
      exact ⟨b4, f4, s4, e1, e2, va_at.kept e3 (hks _ (va_at.lt e3) q2)⟩
  · obtain ⟨ic, en, wr, lo, uw, kn, oc, fa, g, e1, e2⟩ := hq
    exact ⟨ic, en, wr, lo, uw, kn, oc, fa, g, va_at.kept e1 (hkl _ 8 (va_at.lt e1) l8 (by omega) w8), (hkl _ 9 (q_lt e2) l9 (by omega) w9).trans e2⟩
theorem CRx.all {D : va_G} {cA : Nat → ClassId} {lab : Nat → Nat} {nm : Nat → Nat → Nat} {rf : Nat → Nat → Option Nat} {f : Nat → Nat → Int32} {nC nL nV : Nat} {H : Heap} (h : CRx D cA lab nm rf f nC nL nV (fun _ => False) H) : CRv D cA lab nm rf f nC nL nV H ∧ IQ0 D cA nm H := by
  obtain ⟨h1, h2, h3, h4, h5, h6, h7, h8, h9, h10, h11, h12⟩ := h
  exact ⟨⟨h1 id, h2 id id, h3 id id, h4 id id, fun j q => h5 j q id, fun j q => h6 j q id, fun j q => h7 j q id, fun j q => h8 j q id, fun j q => h9 j q id, fun j b q q2 => h10 j b q q2 id, h11⟩, h12 id id⟩
/-- the class's state: its cells lie in A, its lists' empty row is z -/
def CS (D : va_G) (cA : Nat → ClassId) (A : Nat → Prop) (z o : Nat) (f : Nat → Nat → Int32) (nC nL nV : Nat) (H : Heap) : Prop := ∃ (lab : Nat → Nat) (nm : Nat → Nat → Nat) (rf : Nat → Nat → Option Nat), CRv D cA lab nm rf f nC nL nV H ∧ CRl A lab nm rf nC nL ∧ IQ0 D cA nm H ∧ nm 12 0 = z ∧ nm 0 0 = o
theorem CS.same {D : va_G} {cA : Nat → ClassId} {A : Nat → Prop} {z o : Nat} {f : Nat → Nat → Int32} {nC nL nV : Nat} {H H1 : Heap} (h : CS D cA A z o f nC nL nV H) (hk : ∀ q, q < H.size → A q → H1[q]? = H[q]?) : CS D cA A z o f nC nL nV H1 := by
  obtain ⟨lab, nm, rf, h1, h2, h3, h4, h5⟩ := h
  have h6 := CRv.keptX (lab' := lab) h1 h2 h3 (fun _ => False) id (fun q q1 q2 _ => hk q q1 (h2.1 q q2)) (fun _ _ => rfl)
  exact ⟨lab, nm, rf, h6.all.1, h2, h6.all.2, h4, h5⟩
/-- a public call ends: it has thrown nothing (k is 0), answers v, P of the heap -/
def pJ (k : Int32) (v : Option Value) (P : Heap → Prop) : Option Value → Heap → Prop := fun r H => k = 0 ∧ r = v ∧ P H
/-- or it throws the class that k tells -/
def xT (k : Int32) (ex : Int32 → String) (P : Heap → Prop) (A : Nat → Prop) : String → State → State → Prop := fun E st t => ¬ k = 0 ∧ E = ex k ∧ P t.heap ∧ va_F A st t
def eI : String := "java/lang/IndexOutOfBoundsException"
def eA : String := "java/lang/IllegalArgumentException"
def eS : String := "java/lang/IllegalStateException"
def xDecl : List String := ["java/lang/RuntimeException", "java/lang/Exception", "java/lang/Throwable"]
def xSelf : List String := ["java/lang/IndexOutOfBoundsException", "java/lang/IllegalArgumentException", "java/lang/IllegalStateException"]
/-- what a throw wants of the state: two statics of Throwable, the texts, some words of the tables -/
def tK (A : Nat → Prop) (U : State) : Prop := vx_Zq Bundle.tN "UNASSIGNED_STACK" Bundle.steD A U U.heap ∧ vx_Zq Bundle.tN "SUPPRESSED_SENTINEL" Bundle.listD A U U.heap ∧
  (∃ a, vk_R "ConfigBeacon" 242 "there is no such client, layer, setting or version" a U) ∧ (∃ a, vk_R "ConfigBeacon" 246 "an argument is out of its range" a U) ∧ (∃ a, vk_R "ConfigBeacon" 249 "not possible in this state" a U) ∧
  (∃ a, vk_R "ConfigBeacon" 101 "no layer has this place" a U) ∧ (∃ a, vk_R "ConfigBeacon" 161 "locked, no rollout, or not a greater share" a U) ∧ (∃ a, vk_R "ConfigBeacon" 172 "locked, or no rollout" a U) ∧ (∀ y ∈ xDecl, va_Nw (.declares (Bundle.initS y)) U) ∧ ∀ x ∈ xSelf, va_Nw (.castable x x) U
theorem tK.to {A B : Nat → Prop} {s U : State} (h : tK A s) (hk : ∀ a : Nat, a < s.heap.size → ¬ A a → U.heap[a]? = s.heap[a]?) (hAB : ∀ q, B q → A q) (hv : s.vm.Alike U.vm) (hR : ∀ i tx a, vk_R "ConfigBeacon" i tx a s → vk_R "ConfigBeacon" i tx a U) (hD : ∀ y, va_Nw (.declares y) s → va_Nw (.declares y) U) (hC : ∀ x y, va_Nw (.castable x y) s → va_Nw (.castable x y) U) : tK B U := by
  obtain ⟨h1, h2, ⟨a3, h3⟩, ⟨a4, h4⟩, ⟨a5, h5⟩, ⟨a6, h6⟩, ⟨a7, h7⟩, ⟨a8, h8⟩, h9, h10⟩ := h
  exact ⟨vx_Zq.moved hv ((h1.kept hk).narrow hAB), vx_Zq.moved hv ((h2.kept hk).narrow hAB), ⟨a3, hR _ _ _ h3⟩, ⟨a4, hR _ _ _ h4⟩, ⟨a5, hR _ _ _ h5⟩, ⟨a6, hR _ _ _ h6⟩, ⟨a7, hR _ _ _ h7⟩, ⟨a8, hR _ _ _ h8⟩, fun y hy => hD _ (h9 y hy), fun x hx => hC _ _ (h10 x hx)⟩
theorem tK.blind {A : Nat → Prop} : FrameBlind (fun _ U => tK A U) := fun _ U g mk h => h.to (fun _ _ _ => rfl) (fun _ q => q) (by exact Vm.Alike.refl U.vm) (fun i tx a hr => vk_R.same (u := U) rfl hr) (fun y hy => va_Nw.same (u := U) rfl rfl hy) (fun x y hx => va_Nw.same (u := U) rfl rfl hx)
theorem tK.at {A B : Nat → Prop} {s U : State} {H : Heap} {locs : List Loc} (h : tK A s) (hS : va_S A s.heap H locs) (hAB : ∀ q, B q → A q) (hU : U.heap = H) (hW : s.WarmedH U.vm) : tK B U :=
  h.to (fun a h1 h2 => by rw [hU]; exact hS.2.1 a h1 h2) hAB hW.alike (fun i tx a hr => vk_R.warm hW hr) (fun y hy => va_Nw.warmD hW hy) (fun x y hx => va_Nw.warmC hW hx)
/-- all that a public call wants of the state beside the tables -/
def pK (A : Nat → Prop) (z : Nat) (U : State) : Prop := zK A z U ∧ tK A U
theorem pK.blind {A : Nat → Prop} {z : Nat} : FrameBlind (fun _ U => pK A z U) := fun a U g mk h => ⟨zK.blind a U g mk h.1, tK.blind a U g mk h.2⟩
theorem pK.at {A B : Nat → Prop} {z : Nat} {s U : State} {H : Heap} {locs : List Loc} (h : pK A z s) (hS : va_S A s.heap H locs) (hAB : ∀ q, B q → A q) (hU : U.heap = H) (hW : s.WarmedH U.vm) : pK B z U := ⟨h.1.at hS hAB hU hW, h.2.at hS hAB hU hW⟩
/-- a check: b is what it is told, E what it throws -/
def ckQ (b : Bool) : Array Value → State → Outcome → State → Prop := fun _ st o t => o = .returned none ∧ b = true ∧ t.heap = st.heap
def ckX (b : Bool) (E0 : String) : String → State → State → Prop := fun E st t => E = E0 ∧ b = false ∧ st.heap.size ≤ t.heap.size ∧ ∀ q : Nat, q < st.heap.size → t.heap[q]? = st.heap[q]?
section XXC
variable {p : Program} {l : Launch} {e : Env} {R : Room} {s : State} {m : MethodId} {args : Array Value} {below : List Frame} {meth : Method} {c : Code} {H : Heap} {locs : List Loc} {cells slots : Nat} {Q : State → Prop}
variable {pc : Nat} {ls : Array Slot} {rest st0 : List Value} {a : Array Value} {A0 : Nat → Prop} {H0 : Heap}
theorem xx_check {b : Bool} {E0 : String} (hr : vx_Run p l e R s m args below meth c H locs cells slots 1 6 (F0 m pc ls st0) rest (ckQ b a) (ckX b E0) (fun _ => False)) (hS : va_S A0 H0 H locs)
    (kx : b = false → ∀ (ce : Cell) (q9 : Addr) (H1 : Heap), H.size ≤ H1.size → (∀ q : Nat, q < H.size → H1[q]? = H[q]?) → va_S A0 H0 H1 locs → H1[q9]? = some ce → ce.vm = .none → s.vm.findClass E0 = some ce.cls → vx_W p l e R s m args below meth c H1 locs (cells + 1) (slots + 6) Q (F0 m pc ls rest) q9)
    (kk : b = true → W p l e R s m args below meth c H locs (cells + 1) (slots + 6) Q (F0 m (pc + 3) ls rest)) : W p l e R s m args below meth c H locs cells slots Q (F0 m pc ls st0) := by
  intro T hT X
  rcases hr T hT X with ⟨v, st₀, t, T', L, h0, X', hL, e1, e2, ⟨hv, hb, hh⟩, st⟩ | ⟨q, st₀, t, T', L, E, ce, h0, X', hL, e1, e2, ⟨rfl, hb, hz, hk⟩, hce, hcv, hcl, st⟩
  · cases hv
    obtain ⟨t2, a1, b1⟩ := kk hb T' (by rw [e1, hh, h0]) (Stand.forget X' (fun q h => (hL q h).elim))
    exact ⟨t2, st t2 a1, b1⟩
  · rw [h0] at hz hk
    obtain ⟨t2, a1, b1⟩ := kx hb ce q T'.heap (by rw [e1]; exact hz) (fun q h => by rw [e1]; exact hk q h) ⟨Nat.le_trans hS.1 (by rw [e1]; exact hz), fun q h1 h2 => by rw [e1, hk q (Nat.lt_of_lt_of_le h1 hS.1)]; exact hS.2.1 q h1 h2, hS.2.2⟩ (by rw [e1]; exact hce) hcv hcl T' rfl (Stand.forget X' (fun q h => (hL q h).elim))
    exact ⟨t2, st.trans a1, b1⟩
end XXC
