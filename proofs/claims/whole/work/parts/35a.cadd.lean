/-! a start that says more of the state; the copy of a row; the empty row that all lists share -/
def xPX (D : va_G) (cA : Nat → ClassId) (X : State → Prop) (av : List Value) (I : Heap → Prop) : Array Value → State → Prop := fun v U => v = av.toArray ∧ (xK D cA U ∧ X U) ∧ I U.heap
theorem xPX_blind {D : va_G} {cA : Nat → ClassId} {X : State → Prop} {av : List Value} {I : Heap → Prop} (hX : FrameBlind (fun _ U => X U)) : FrameBlind (xPX D cA X av I) := fun a U g mk h => ⟨h.1, ⟨xK.same (U := U.calling g mk a) h.2.1.1 rfl, hX a U g mk h.2.1.2⟩, h.2.2⟩
theorem xPXS {D : va_G} {cA : Nat → ClassId} {X : State → Prop} {As : List Value} {I : Heap → Prop} {s : State} {H : Heap} (hK : xK D cA s) (hb : FrameBlind (fun _ U => X U)) (hX : ∀ U : State, U.heap = H → s.WarmedH U.vm → X U) (hI : I H) : PreS s H (xPX D cA X As I) As := ⟨xPX_blind hb, fun U hU hW => ⟨rfl, ⟨hK.warm hW, hX U hU hW⟩, by rw [hU]; exact hI⟩⟩
theorem xPXV {D : va_G} {cA : Nat → ClassId} {X : State → Prop} {As : List Value} {I : Heap → Prop} {s : State} {H : Heap} {b ci : Nat} {q : vw_C} {fs : List Value} (hK : xK D cA s) (hb : FrameBlind (fun _ U => X U)) (hX : ∀ U : State, U.heap = H → s.WarmedH U.vm → X U) (hO : xO D b ci fs H) (hc : vwCl[ci]? = some q) (hI : I H) : PreV s H q.1 b (xPX D cA X (.ref b :: As) I) As := ⟨xPX_blind hb, va_recv hK.1 (x_one hO) (ci := ci) (q0 := 0) hc rfl, fun U hU hW => ⟨rfl, ⟨hK.warm hW, hX U hU hW⟩, by rw [hU]; exact hI⟩⟩
theorem va_Mi.blind {C : String} {mi : Nat} : FrameBlind (fun _ U => va_Mi C mi U) := fun _ U g mk h => va_Mi.moved (u := U) (by exact Vm.Alike.refl U.vm) h
/-- the row that all empty lists share, and the static that holds it; A is what may be written -/
def zK (A : Nat → Prop) (z : Nat) (U : State) : Prop := va_Z "java/util/ArrayList" "DEFAULTCAPACITY_EMPTY_ELEMENTDATA" "[Ljava/lang/Object;" (.ref z) A U U.heap ∧ va_T (.object "java/lang/Object") z 0 (fun _ => .null) A U U.heap
theorem zK.blind {A : Nat → Prop} {z : Nat} : FrameBlind (fun _ U => zK A z U) := fun _ U g mk h => ⟨va_Z.moved (u := U) (by exact Vm.Alike.refl U.vm) h.1, va_T.moved (u := U) (by exact Vm.Alike.refl U.vm) h.2⟩
theorem zK.at {A B : Nat → Prop} {z : Nat} {s U : State} {H : Heap} {locs : List Loc} (h : zK A z s) (hS : va_S A s.heap H locs) (hAB : ∀ q, B q → A q) (hU : U.heap = H) (hW : s.WarmedH U.vm) : zK B z U := by
  refine ⟨?_, ?_⟩
  · rw [hU]; exact va_Z.moved hW.alike ((h.1.kept (fun a h1 h2 => hS.2.1 a h1 h2)).narrow hAB)
  · rw [hU]; exact va_T.moved hW.alike ((h.2.kept (fun a h1 h2 => hS.2.1 a h1 h2)).narrow hAB)
theorem zK.not {A : Nat → Prop} {z : Nat} {s : State} (h : zK A z s) : ¬ A z := by
  obtain ⟨cell, h1, h2, h3, h4, h5, h6, h7⟩ := h.2
  exact h7
theorem zK.lt {A : Nat → Prop} {z : Nat} {s : State} (h : zK A z s) : z < s.heap.size := by
  obtain ⟨cell, h1, h2, h3, h4, h5, h6, h7⟩ := h.2
  exact (Array.getElem?_eq_some_iff.mp h1).1
section XZ
variable {p : Program} {l : Launch} {e : Env} {R : Room} {s : State} {m : MethodId} {args : Array Value} {below : List Frame} {meth : Method} {c : Code} {H : Heap} {locs : List Loc} {cells slots : Nat} {Q : State → Prop}
variable {pc : Nat} {ls : Array Slot} {rest : List Value} {A : Nat → Prop} {H0 : Heap} {cc : ByteArray} {D : va_G} {cA : Nat → ClassId} {a : Nat}
theorem x_zlen (hx : p.tables.exec = Jvm.exec) (hb : c.code = cc) {z : Nat} (hZ : zK A z s) (hS : va_S A s.heap H locs) (hdg : decode cc pc = .ok (.arraylength, 1))
    (kk : W p l e R s m args below meth c H locs cells slots Q (F0 m (pc + 1) ls (.int 0 :: rest))) : W p l e R s m args below meth c H locs cells slots Q (F0 m pc ls (.ref z :: rest)) := by
  obtain ⟨cell, h1, h2, h3, h4, h5, h6, h7⟩ := hZ.2
  exact W.alen (n := Int32.ofNat 0) hx hb (by rw [hS.2.1 z (Array.getElem?_eq_some_iff.mp h1).1 h7]; exact h1) h2 h5 rfl rfl hdg kk
theorem x_alen (hx : p.tables.exec = Jvm.exec) (hb : c.code = cc) (hK : xK D cA s) (t : Nat) {ty : FieldType} (ht : (xTy cA)[t]? = some (cA t, ty)) {n : Nat} {f : Nat → Option Nat} (hI : xQ (cA t) a n f H) (hdg : decode cc pc = .ok (.arraylength, 1))
    (kk : W p l e R s m args below meth c H locs cells slots Q (F0 m (pc + 1) ls (.int (nI n) :: rest))) : W p l e R s m args below meth c H locs cells slots Q (F0 m pc ls (.ref a :: rest)) :=
  va_alen hx hb hK.1 (x_one (q := (a, .inl (cA t, n, .inr (.inr (.inr (.inr f)))))) hI) 0 t rfl ht (v := nI n) rfl hdg kk
theorem x_two {D : va_G} {q r : Nat × va_E} {H : Heap} (h : va_at D vwCl q H) (h2 : va_at D vwCl r H) : va_P D vwCl [q, r] H := by
  intro k q' hk
  match k, hk with
  | 0, hk => cases hk; exact h
  | 1, hk => cases hk; exact h2
  | k + 2, hk => simp at hk
theorem x_copy (hx : p.tables.exec = Jvm.exec) (hb : c.code = cc) (hml : c.maxLocals = ls.size) {own : String} {index : Nat} (hown : s.vm.findClass own = some m.cls) (hlink : (Cond.methodLink own index arraycopyName).before args s = true) (hnat : (Cond.native arraycopyName).before args s = true) (hstat : (Cond.static arraycopyName).before args s = true) (hini : (Cond.initialized "java/lang/System").before args s = true)
    (hK : xK D cA s) (hS : va_S A H0 H locs) {src d n0 n1 : Nat} {f g : Nat → Option Nat} (hs0 : xQ (cA 4) src n0 f H) (hd : xQ (cA 4) d n1 g H) (hne : ¬ src = d) (hAs : A src) (hAd : A d) {ci : Nat} {r : vw_C} (hc : vwCl[ci]? = some r) (hca : va_Nw (.castable r.1 "java/lang/Object") s) {k : Nat} (h0 : k ≤ n0) (h1 : k ≤ n1) (hk : k < 2 ^ 31) (hel : ∀ i : Nat, i < k → ∀ y : Nat, f i = some y → ∃ fs, xO D y ci fs H)
    (hframes : 1 ≤ R.frames) (hlocals : (rest.map fun v => v.category).sum + (nativeFrameWords "java/lang/System" "arraycopy" 5 + 11) ≤ R.locals) (hdg : decode cc pc = .ok (.invokestatic index, 3))
    (kk : ∀ (H1 : Heap) (locs1 : List Loc), xQ (cA 4) d n1 (fun j => if j < k then f j else g j) H1 → xQ (cA 4) src n0 f H1 → va_S A H0 H1 locs1 → W p l e R s m args below meth c H1 locs1 cells slots Q (F0 m (pc + 3) ls rest)) : W p l e R s m args below meth c H locs cells slots Q (F0 m pc ls (.int (nI k) :: .int 0 :: .ref d :: .int 0 :: .ref src :: rest)) := by
  have hkc : (nI k).toNatClampNeg = k := nI_clamp hk
  have z0 : (0 : Int32).toNatClampNeg = 0 := by decide
  refine va_copyq hx hb hml hown hlink hnat hstat hini hK.1 (x_two (q := (src, .inl (cA 4, n0, .inr (.inr (.inr (.inr f)))))) (r := (d, .inl (cA 4, n1, .inr (.inr (.inr (.inr g)))))) hs0 hd) ⟨?_, ?_⟩ hS 0 1 4 4 (C := r.1) rfl rfl (E0 := "java/lang/Object") (E1 := "java/lang/Object") rfl rfl (by decide) (by decide) (fun q => ?_) (by rw [z0, hkc]; omega) (by rw [z0, hkc]; omega) (fun i hi y hy => ?_) (fun comp c0 q1 q2 => ?_) hframes hlocals hdg (fun H1 locs1 hP1 _ hS1 => kk H1 locs1 ?_ (hP1 0 _ rfl) hS1)
  · intro i j p q hi hj hpq
    match i, j with
    | 0, 0 => rfl
    | 1, 1 => rfl
    | 0, 1 => cases hi; cases hj; exact absurd hpq hne
    | 1, 0 => cases hi; cases hj; exact absurd hpq.symm hne
    | i + 2, _ => simp at hi
    | 0, j + 2 => simp at hj
    | 1, j + 2 => simp at hj
  · intro i q hi
    match i with
    | 0 => cases hi; exact hAs
    | 1 => cases hi; exact hAd
    | i + 2 => simp at hi
  · exact absurd q (Int32.not_lt.mpr (nI_le (a := 0) (b := k) (by omega) (by omega)))
  · rw [hkc] at hi
    rw [z0, Nat.zero_add] at hy
    obtain ⟨fs, hO⟩ := hel i hi y hy
    exact va_recv (q0 := 0) hK.1 (x_one hO) hc rfl
  · obtain ⟨c1, t1, f1, f2, f3⟩ := Cond.castable_spec (va_Nw.use (A := args) rfl hca)
    cases q2.symm.trans f1
    cases q1.symm.trans f2
    exact f3
  · have e := hP1 1 _ rfl
    exact xQ_cong e (fun i hi => by simp [va_cpy, z0, hkc])
end XZ
theorem nI_half {n : Nat} (h : n ≤ 1000) : nI n >>> (1 &&& 31) = nI (n / 2) := by
  have : ∀ n : Fin 1001, nI n.1 >>> (1 &&& 31) = nI (n.1 / 2) := by decide +kernel
  exact this ⟨n, by omega⟩
theorem nI_sub1 {n : Nat} : nI (n + 1) - nI n = nI 1 := by
  have h := nI_1 n
  rw [← h]
  show nI n + 1 - nI n = 1
  rw [Int32.add_comm, Int32.add_sub_cancel]
section XCR
variable {p : Program} {l : Launch} {e : Env} {R : Room} {s : State} {m : MethodId} {args : Array Value} {below : List Frame} {meth : Method} {c : Code} {H : Heap} {locs : List Loc} {cells slots : Nat} {Q : State → Prop}
variable {pc : Nat} {ls : Array Slot} {rest st0 : List Value} {av : Array Value} {A A0 A1 : Nat → Prop} {H0 : Heap} {mc ms : Nat} {free : Addr → Prop}
theorem xw_callr {P : Nat → Heap → Prop} (hr : va_Run p l e R s m args below meth c H locs cells slots mc ms (F0 m pc ls st0) rest (xW (fun r H => ∃ q, r = some (va_rf (some q)) ∧ P q H) A1 av) free) (hS : va_S A0 H0 H locs) (hA : ∀ q, q < H.size → A1 q → A0 q) (hf : ∀ q, free q → A0 q)
    (kk : ∀ (q : Nat) (H1 : Heap) (locs1 : List Loc), P q H1 → H.size ≤ H1.size → (∀ q : Nat, q < H.size → ¬ A1 q → H1[q]? = H[q]?) → va_S A0 H0 H1 locs1 → W p l e R s m args below meth c H1 locs1 (cells + mc) (slots + ms) Q (F0 m (pc + 3) ls (.ref q :: rest))) : W p l e R s m args below meth c H locs cells slots Q (F0 m pc ls st0) :=
  xw_call hr hS hA hf (fun r H1 locs1 hJ hz hk hS1 => by
    obtain ⟨q, rfl, hP⟩ := hJ
    exact kk q H1 locs1 hP hz hk hS1)
end XCR
