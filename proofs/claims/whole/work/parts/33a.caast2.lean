/-! an entry, or none, into a row of entries; new objects, their addresses by name -/
section XAE
variable {p : Program} {l : Launch} {e : Env} {R : Room} {s : State} {m : MethodId} {args : Array Value} {below : List Frame} {meth : Method} {c : Code} {H : Heap} {locs : List Loc} {cells slots : Nat} {Q : State → Prop}
variable {pc : Nat} {ls : Array Slot} {rest : List Value} {A : Nat → Prop} {H0 : Heap} {cc : ByteArray} {D : va_G} {cA : Nat → ClassId} {a : Nat}
theorem x_aastE (hx : p.tables.exec = Jvm.exec) (hb : c.code = cc) (hK : xK D cA s) {n : Nat} {f : Nat → Option Nat} (hI : xQ (cA 2) a n f H) (hS : va_S A H0 H locs) (ha : A a) {o : Option Nat} {y : Int32} (ho : eR D o y H) {i : Int32} (j : Nat) (hi : i = nI j) (hj : j < n) (hn : n < 2 ^ 31) (hdg : decode cc pc = .ok (.aastore, 1))
    (kk : ∀ (H1 : Heap) (locs1 : List Loc), xQ (cA 2) a n (va_up f j o) H1 → H1.size = H.size → (∀ q : Nat, q ≠ a → H1[q]? = H[q]?) → va_S A H0 H1 locs1 → W p l e R s m args below meth c H1 locs1 cells slots Q (F0 m (pc + 1) ls rest)) : W p l e R s m args below meth c H locs cells slots Q (F0 m pc ls (va_rf o :: .int i :: .ref a :: rest)) := by
  cases o with
  | none => exact x_aastN hx hb hK 2 rfl hI hS ha j hi hj hn hdg kk
  | some q =>
    obtain ⟨b, f1, s1, -, -, hO⟩ := ho
    exact x_aastS hx hb hK 2 (r := (RX2, TX2, 3)) rfl hI hS ha hO rfl j hi hj hn hdg kk
theorem xn_o (hx : p.tables.exec = Jvm.exec) (hb : c.code = cc) {own C : String} {T : u_T} {N ci index : Nat} {Ts : List Cond} (hts : ∀ w ∈ Ts, w.before args s = true) (hin : ∀ w ∈ u_ws C T N, w ∈ Ts) (ty : Nat → FieldType) (hty : ∀ k, k < N → parseFieldDescriptor (T k).2.2.1 = some (ty k)) (hown : s.vm.findClass own = some m.cls) (hcl : (Cond.classLink own index C).before args s = true) (hinst : (Cond.instantiable C N).before args s = true) (hini : (Cond.initialized C).before args s = true)
    (hK : xK D cA s) (hS : va_S A H0 H locs) (hc : vwCl[ci]? = some (C, T, N)) (fs : List Value) (hfs : ∀ j, j < N → defaultValue (ty j) = vp_V fs j) (hcells : cells + 1 ≤ R.cells) (hslots : slots + N ≤ R.slots) (hdg : decode cc pc = .ok (.new index, 3))
    (kk : ∀ (q : Nat) (H1 : Heap), q = H.size → H0.size ≤ q → xO D q ci fs H1 → H1.size = q + 1 → (∀ x, x < H.size → H1[x]? = H[x]?) → va_S A H0 H1 locs →
      W p l e R s m args below meth c H1 locs (cells + 1) (slots + N) Q (F0 m (pc + 3) ls (.ref q :: rest))) : W p l e R s m args below meth c H locs cells slots Q (F0 m pc ls rest) :=
  x_new hx hb hts hin ty hty hown hcl hinst hini hK hS hc fs hfs hcells hslots hdg fun H1 h1 z o hS1 => kk _ H1 rfl hS.1 h1 z o hS1
end XAE
theorem eR.keptS {D : va_G} {o : Option Nat} {x : Int32} {H H1 : Heap} (h : eR D o x H) (hq : ∀ q, q < H.size → H1[q]? = H[q]?) : eR D o x H1 := by
  cases o with
  | none => exact h
  | some q =>
    obtain ⟨b, f, s, h1, hg, hO⟩ := h
    exact ⟨b, f, s, h1, hg, va_at.kept hO (hq q (va_at.lt hO))⟩
