/-! rows over single cells: what is written is said exactly; all other cells stay -/
def rmK (k mc ms : Nat) : Room := { frames := 10 + k, cells := mc, slots := ms, locals := 100 + 40 * k }
def xV (r0 : Option Value) (P : Heap → Prop) : Option Value → Heap → Prop := fun r H => r = r0 ∧ P H
section XC
variable {p : Program} {l : Launch} {e : Env} {R : Room} {s : State} {m : MethodId} {args : Array Value} {below : List Frame} {meth : Method} {c : Code} {H : Heap} {locs : List Loc} {cells slots : Nat} {Q : State → Prop}
variable {pc : Nat} {ls : Array Slot} {rest st0 : List Value} {av : Array Value} {A A0 A1 : Nat → Prop} {H0 : Heap} {mc ms : Nat} {free : Addr → Prop} {cc : ByteArray} {D : va_G} {cA : Nat → ClassId} {a : Nat}
theorem xw_calls {v : Value} {P : Heap → Prop} (hr : va_Run p l e R s m args below meth c H locs cells slots mc ms (F0 m pc ls st0) rest (xW (xV (some v) P) A1 av) free) (hS : va_S A0 H0 H locs) (hA : ∀ q, q < H.size → A1 q → A0 q) (hf : ∀ q, free q → A0 q)
    (kk : ∀ (H1 : Heap) (locs1 : List Loc), P H1 → H.size ≤ H1.size → (∀ q : Nat, q < H.size → ¬ A1 q → H1[q]? = H[q]?) → va_S A0 H0 H1 locs1 → W p l e R s m args below meth c H1 locs1 (cells + mc) (slots + ms) Q (F0 m (pc + 3) ls (v :: rest))) : W p l e R s m args below meth c H locs cells slots Q (F0 m pc ls st0) :=
  xw_call hr hS hA hf (fun r H1 locs1 hJ hz hk hS1 => by
    obtain ⟨rfl, hP⟩ := hJ
    exact kk H1 locs1 hP hz hk hS1)
theorem xw_calln {P : Heap → Prop} (hr : va_Run p l e R s m args below meth c H locs cells slots mc ms (F0 m pc ls st0) rest (xW (xV none P) A1 av) free) (hS : va_S A0 H0 H locs) (hA : ∀ q, q < H.size → A1 q → A0 q) (hf : ∀ q, free q → A0 q)
    (kk : ∀ (H1 : Heap) (locs1 : List Loc), P H1 → H.size ≤ H1.size → (∀ q : Nat, q < H.size → ¬ A1 q → H1[q]? = H[q]?) → va_S A0 H0 H1 locs1 → W p l e R s m args below meth c H1 locs1 (cells + mc) (slots + ms) Q (F0 m (pc + 3) ls rest)) : W p l e R s m args below meth c H locs cells slots Q (F0 m pc ls st0) :=
  xw_call hr hS hA hf (fun r H1 locs1 hJ hz hk hS1 => by
    obtain ⟨rfl, hP⟩ := hJ
    exact kk H1 locs1 hP hz hk hS1)
theorem x_get (hx : p.tables.exec = Jvm.exec) (hb : c.code = cc) {own ref C : String} {T : u_T} {N ci index : Nat} {Ts : List Cond} (hts : ∀ w ∈ Ts, w.before args s = true) (hin : ∀ w ∈ u_ws C T N, w ∈ Ts) (hown : s.vm.findClass own = some m.cls) (hK : xK D cA s) {fs : List Value} (hO : xO D a ci fs H) (hc : vwCl[ci]? = some (C, T, N)) (k : Nat) (hk : k < N) (hlink : (Cond.fieldLink own index ref (T k).2.1 (T k).2.2.1).before args s = true) (hsame : ∀ x, s.fieldFound? (T k).1 (T k).2.1 (T k).2.2.1 = some x → s.fieldFound? ref (T k).2.1 (T k).2.2.1 = some x) {v : Value} (hv : fs[k]? = some v) (hdg : decode cc pc = .ok (.getfield index, 3))
    (kk : W p l e R s m args below meth c H locs cells slots Q (F0 m (pc + 3) ls (v :: rest))) : W p l e R s m args below meth c H locs cells slots Q (F0 m pc ls (.ref a :: rest)) :=
  va_get hx hb hts hin hown hK.1 (x_one hO) 0 rfl hc k hk hlink hsame hv hdg kk
theorem x_put (hx : p.tables.exec = Jvm.exec) (hb : c.code = cc) {own ref C : String} {T : u_T} {N ci index : Nat} {Ts : List Cond} (hts : ∀ w ∈ Ts, w.before args s = true) (hin : ∀ w ∈ u_ws C T N, w ∈ Ts) (ty0 : Nat → FieldType) (hty : ∀ k, k < N → parseFieldDescriptor (T k).2.2.1 = some (ty0 k)) (hnm : ∀ a, a < N → ∀ b, b < N → a ≠ b → (T a).2.1 ≠ (T b).2.1) (hown : s.vm.findClass own = some m.cls) (hK : xK D cA s) {fs : List Value} (hO : xO D a ci fs H) (hS : va_S A H0 H locs) (ha : A a) (hc : vwCl[ci]? = some (C, T, N)) (k : Nat) (hk : k < N) (hlink : (Cond.fieldLink own index ref (T k).2.1 (T k).2.2.1).before args s = true) (hsame : ∀ x, s.fieldFound? (T k).1 (T k).2.1 (T k).2.2.1 = some x → s.fieldFound? ref (T k).2.1 (T k).2.2.1 = some x) (hfin : (T k).2.2.2 = false) {ty : FieldType} {v : Value} (hd : parseFieldDescriptor (T k).2.2.1 = some ty) (hn : narrow ty v = v) (hfit : fits ty v = true) (hl : k < fs.length)
    (hdg : decode cc pc = .ok (.putfield index, 3)) (kk : ∀ (H1 : Heap) (locs1 : List Loc), xO D a ci (fs.set k v) H1 → H1.size = H.size → (∀ q : Nat, q ≠ a → H1[q]? = H[q]?) → va_S A H0 H1 locs1 → W p l e R s m args below meth c H1 locs1 cells slots Q (F0 m (pc + 3) ls rest)) : W p l e R s m args below meth c H locs cells slots Q (F0 m pc ls (v :: .ref a :: rest)) := by
  have hap := va_apart (own := own) hts hin ty0 hty hnm hK.1 hc
  obtain ⟨r, h1, cell, q1, q2, q3, q4⟩ := hO
  have hr : r = (C, T, N) := Option.some.inj (h1.symm.trans hc)
  subst hr
  obtain ⟨hSl, hfc, kC, hkC, hkind⟩ := hK.1.1 ci _ hc
  obtain ⟨cf, kf, fi, f, hi, hsl⟩ := hSl k hk
  have hlay := hts _ (hin _ (u_in_lay hk))
  unfold u_lay at hlay
  rw [if_neg (by rw [hfin]; decide)] at hlay
  have hst := (u_facts hfc hkC (u_lays hts hin hk) hi).1
  have h6 := u_store hfc hkC hkind hlay hi hd hn hfit
  refine W.putK hx hb (f := f) ⟨hown, hlink, ⟨_, _, _, hsame _ hi⟩, hst⟩ (by rw [q2]; exact h6) q1 q3 (by rw [hsl]; exact k2_hasslot (q4 k hk)) rfl rfl hdg fun H' e1 e2 e3 => ?_
  rw [hsl] at e1 ⊢
  exact kk H' _ ⟨_, hc, t_OB.to (V := updV (vp_V fs) k v) ⟨_, e1, q2, q3, t_set q4 hap hk v⟩ (fun j _ => vp_updV_set hl v j)⟩ e2 e3 (hS.put e2 e3 ha)
theorem x_iald (hx : p.tables.exec = Jvm.exec) (hb : c.code = cc) (hK : xK D cA s) {n : Nat} {f : Nat → Int32} (hI : xI (cA 0) a n f H) {i : Int32} (j : Nat) (hi : i = nI j) (hj : j < n) (hn : n < 2 ^ 31) (hdg : decode cc pc = .ok (.iaload, 1))
    (kk : W p l e R s m args below meth c H locs cells slots Q (F0 m (pc + 1) ls (.int (f j) :: rest))) : W p l e R s m args below meth c H locs cells slots Q (F0 m pc ls (.int i :: .ref a :: rest)) := by
  subst hi
  refine va_iald (D := D) (cl := vwCl) (ws := [(a, .inl (cA 0, n, .inl f))]) hx hb hK.1 (x_one hI) 0 0 rfl rfl (vp_in_nI hj hn) hdg ?_
  rw [nI_clamp (by omega)]
  exact kk
theorem x_lald (hx : p.tables.exec = Jvm.exec) (hb : c.code = cc) (hK : xK D cA s) {n : Nat} {f : Nat → Int64} (hI : xL (cA 1) a n f H) {i : Int32} (j : Nat) (hi : i = nI j) (hj : j < n) (hn : n < 2 ^ 31) (hdg : decode cc pc = .ok (.laload, 1))
    (kk : W p l e R s m args below meth c H locs cells slots Q (F0 m (pc + 1) ls (.long (f j) :: rest))) : W p l e R s m args below meth c H locs cells slots Q (F0 m pc ls (.int i :: .ref a :: rest)) := by
  subst hi
  refine va_lald (D := D) (cl := vwCl) (ws := [(a, .inl (cA 1, n, .inr (.inl f)))]) hx hb hK.1 (x_one hI) 0 1 rfl rfl (vp_in_nI hj hn) hdg ?_
  rw [nI_clamp (by omega)]
  exact kk
theorem x_iast (hx : p.tables.exec = Jvm.exec) (hb : c.code = cc) (hK : xK D cA s) {n : Nat} {f : Nat → Int32} (hI : xI (cA 0) a n f H) (hS : va_S A H0 H locs) (ha : A a) {i x : Int32} (j : Nat) (hi : i = nI j) (hj : j < n) (hn : n < 2 ^ 31) (hdg : decode cc pc = .ok (.iastore, 1))
    (kk : ∀ (H1 : Heap) (locs1 : List Loc), xI (cA 0) a n (upd f j x) H1 → H1.size = H.size → (∀ q : Nat, q ≠ a → H1[q]? = H[q]?) → va_S A H0 H1 locs1 → W p l e R s m args below meth c H1 locs1 cells slots Q (F0 m (pc + 1) ls rest)) : W p l e R s m args below meth c H locs cells slots Q (F0 m pc ls (.int x :: .int i :: .ref a :: rest)) := by
  subst hi
  refine W.iast hx hb hI ((hK.1.2 0 _ rfl).1 n (fun j => .int (f j))) (fun q => by cases q) (by show ¬ (nI j < 0 ∨ (arrV _ _ _).slots.size ≤ _); rw [arrV_size]; exact vp_in_nI hj hn) rfl rfl hdg fun H1 e1 z oq => ?_
  refine kk H1 _ ?_ z oq (hS.put z oq ha)
  show H1[a]? = some (vp_cell _ _)
  rw [e1, vp_cell_i, vp_cell_i, arrV_store, nI_clamp (by omega)]
  congr 2
  funext q
  by_cases hq : q = j
  · subst hq; simp [updV, upd]
  · simp [updV, upd, hq]
theorem x_last (hx : p.tables.exec = Jvm.exec) (hb : c.code = cc) (hK : xK D cA s) {n : Nat} {f : Nat → Int64} (hI : xL (cA 1) a n f H) (hS : va_S A H0 H locs) (ha : A a) {i : Int32} {x : Int64} (j : Nat) (hi : i = nI j) (hj : j < n) (hn : n < 2 ^ 31) (hdg : decode cc pc = .ok (.lastore, 1))
    (kk : ∀ (H1 : Heap) (locs1 : List Loc), xL (cA 1) a n (vp_updL f j x) H1 → H1.size = H.size → (∀ q : Nat, q ≠ a → H1[q]? = H[q]?) → va_S A H0 H1 locs1 → W p l e R s m args below meth c H1 locs1 cells slots Q (F0 m (pc + 1) ls rest)) : W p l e R s m args below meth c H locs cells slots Q (F0 m pc ls (.long x :: .int i :: .ref a :: rest)) := by
  subst hi
  refine W.last hx hb hI ((hK.1.2 1 _ rfl).1 n (fun j => .long (f j))) (fun q => by cases q) (by show ¬ (nI j < 0 ∨ (arrV _ _ _).slots.size ≤ _); rw [arrV_size]; exact vp_in_nI hj hn) rfl rfl hdg fun H1 e1 z oq => ?_
  refine kk H1 _ ?_ z oq (hS.put z oq ha)
  show H1[a]? = some (vp_cell _ _)
  rw [e1, vp_cell_l, vp_cell_l, arrV_store, nI_clamp (by omega)]
  congr 2
  funext q
  by_cases hq : q = j
  · subst hq; simp [updV, vp_updL]
  · simp [updV, vp_updL, hq]
end XC
/-! THE MODEL: its state (numbers, int rows, long rows, by the field's number), its cells -/
abbrev MS : Type := (Nat → Int32) × (Nat → Nat → Int32) × (Nat → Nat → Int64)
def mup {α : Type} (f : Nat → Nat → α) (k j : Nat) (x : α) : Nat → Nat → α := fun a b => if a = k then (if b = j then x else f a b) else f a b
def sg (σ : MS) (k : Nat) (x : Int32) : MS := (upd σ.1 k x, σ.2.1, σ.2.2)
def sa (σ : MS) (k j : Nat) (x : Int32) : MS := (σ.1, mup σ.2.1 k j x, σ.2.2)
def sl (σ : MS) (k j : Nat) (x : Int64) : MS := (σ.1, σ.2.1, mup σ.2.2 k j x)
def mLen (k : Nat) : Nat := if k = 12 then 65664 else if k = 11 then 136 else if k ≤ 1 then 12 else if k ≤ 5 then 8 else if k ≤ 11 then 128 else 16
abbrev mIA : List Nat := [0, 1, 3, 4, 5, 7, 8, 9, 10, 11, 12, 14, 15, 17]
abbrev mLA : List Nat := [16, 19]
abbrev mAA : List Nat := [0, 1, 3, 4, 5, 7, 8, 9, 10, 11, 12, 14, 15, 17, 16, 19]
abbrev mSc : List Nat := [2, 6, 13, 18, 20, 21, 22, 23, 24, 25]
def mF (ad : Nat → Nat) (g : Nat → Int32) : List Value := [.ref (ad 0), .ref (ad 1), .int (g 2), .ref (ad 3), .ref (ad 4), .ref (ad 5), .int (g 6), .ref (ad 7), .ref (ad 8), .ref (ad 9), .ref (ad 10), .ref (ad 11), .ref (ad 12), .int (g 13), .ref (ad 14), .ref (ad 15), .ref (ad 16), .ref (ad 17), .int (g 18), .ref (ad 19), .int (g 20), .int (g 21), .int (g 22), .int (g 23), .int (g 24), .int (g 25)]
theorem mF_set (ad : Nat → Nat) (g : Nat → Int32) (x : Int32) (k : Nat) (h : k ∈ mSc) : (mF ad g).set k (.int x) = mF ad (upd g k x) := by
  simp only [mSc, List.mem_cons, List.not_mem_nil, or_false] at h
  rcases h with rfl | rfl | rfl | rfl | rfl | rfl | rfl | rfl | rfl | rfl <;> rfl
theorem mF_len (ad : Nat → Nat) (g : Nat → Int32) : (mF ad g).length = 26 := rfl
/-- the model M, its rows at ad, holds σ; all its cells lie in A -/
def MR (D : va_G) (cA : Nat → ClassId) (A : Nat → Prop) (M : Nat) (ad : Nat → Nat) (σ : MS) (H : Heap) : Prop :=
  xO D M 8 (mF ad σ.1) H ∧ (∀ k, k ∈ mIA → xI (cA 0) (ad k) (mLen k) (σ.2.1 k) H) ∧ (∀ k, k ∈ mLA → xL (cA 1) (ad k) (mLen k) (σ.2.2 k) H) ∧ (A M ∧ ∀ k, A (ad k)) ∧ (∀ k, k ∈ mAA → ad k ≠ M) ∧ (∀ j k, j ∈ mAA → k ∈ mAA → ad j = ad k → j = k)
theorem mIA_in {k : Nat} (h : k ∈ mIA) : k ∈ mAA := by
  simp only [mIA, mAA, List.mem_cons, List.not_mem_nil, or_false] at h ⊢
  omega
theorem mLA_in {k : Nat} (h : k ∈ mLA) : k ∈ mAA := by
  simp only [mLA, mAA, List.mem_cons, List.not_mem_nil, or_false] at h ⊢
  omega
theorem m_apart {j k : Nat} (h : j ∈ mLA) (h2 : k ∈ mIA) : j ≠ k := by
  simp only [mLA, mIA, List.mem_cons, List.not_mem_nil, or_false] at h h2
  omega
/-- what is outside the model's cells may change -/
theorem MR.kept {D : va_G} {cA : Nat → ClassId} {A : Nat → Prop} {M : Nat} {ad : Nat → Nat} {σ : MS} {H H1 : Heap} (h : MR D cA A M ad σ H) (hk : ∀ q : Nat, q < H.size → A q → H1[q]? = H[q]?) : MR D cA A M ad σ H1 := by
  obtain ⟨h1, h2, h3, h4, h5⟩ := h
  refine ⟨va_at.kept h1 (hk M (va_at.lt h1) h4.1), fun k q => ?_, fun k q => ?_, h4, h5⟩
  · have z := h2 k q
    exact (hk (ad k) (Array.getElem?_eq_some_iff.mp z).1 (h4.2 k)).trans z
  · have z := h3 k q
    exact (hk (ad k) (Array.getElem?_eq_some_iff.mp z).1 (h4.2 k)).trans z
section MW
variable {p : Program} {l : Launch} {e : Env} {R : Room} {s : State} {m : MethodId} {args : Array Value} {below : List Frame} {meth : Method} {c : Code} {H : Heap} {locs : List Loc} {cells slots : Nat} {Q : State → Prop}
variable {pc : Nat} {ls : Array Slot} {rest : List Value} {A : Nat → Prop} {H0 : Heap} {cc : ByteArray} {D : va_G} {cA : Nat → ClassId} {M index : Nat} {ad : Nat → Nat} {σ : MS} {Ts : List Cond}
theorem m_get (hx : p.tables.exec = Jvm.exec) (hb : c.code = cc) (hts : ∀ w ∈ Ts, w.before args s = true) (hin : ∀ w ∈ wsX70, w ∈ Ts) (hown : s.vm.findClass RX7 = some m.cls) (hK : xK D cA s) (hM : MR D cA A M ad σ H) (k : Nat) (hk : k < 26) (hlink : (Cond.fieldLink RX7 index (TX7 k).1 (TX7 k).2.1 (TX7 k).2.2.1).before args s = true) {v : Value} (hv : (mF ad σ.1)[k]? = some v) (hdg : decode cc pc = .ok (.getfield index, 3))
    (kk : W p l e R s m args below meth c H locs cells slots Q (F0 m (pc + 3) ls (v :: rest))) : W p l e R s m args below meth c H locs cells slots Q (F0 m pc ls (.ref M :: rest)) :=
  x_get hx hb hts hin hown hK hM.1 rfl k hk hlink (fun _ h => h) hv hdg kk
theorem m_put (hx : p.tables.exec = Jvm.exec) (hb : c.code = cc) (hts : ∀ w ∈ Ts, w.before args s = true) (hin : ∀ w ∈ wsX70, w ∈ Ts) (hown : s.vm.findClass RX7 = some m.cls) (hK : xK D cA s) (hM : MR D cA A M ad σ H) (hS : va_S A H0 H locs) (k : Nat) (hk : k ∈ mSc) (hk2 : k < 26) (hlink : (Cond.fieldLink RX7 index (TX7 k).1 (TX7 k).2.1 (TX7 k).2.2.1).before args s = true) (hfin : (TX7 k).2.2.2 = false) (hd : parseFieldDescriptor (TX7 k).2.2.1 = some .int) {x : Int32} (hdg : decode cc pc = .ok (.putfield index, 3))
    (kk : ∀ (H1 : Heap) (locs1 : List Loc), MR D cA A M ad (sg σ k x) H1 → va_S A H0 H1 locs1 → W p l e R s m args below meth c H1 locs1 cells slots Q (F0 m (pc + 3) ls rest)) : W p l e R s m args below meth c H locs cells slots Q (F0 m pc ls (.int x :: .ref M :: rest)) := by
  refine x_put hx hb hts hin tyX7 tyX7_ok nmX7 hown hK hM.1 hS hM.2.2.2.1.1 rfl k hk2 hlink (fun _ h => h) hfin hd rfl rfl (by rw [mF_len]; exact hk2) hdg (fun H1 locs1 h1 _ hq hS1 => kk H1 locs1 ?_ hS1)
  rw [mF_set _ _ _ _ hk] at h1
  refine ⟨h1, fun j hj => ?_, fun j hj => ?_, hM.2.2.2⟩
  · exact (hq _ (hM.2.2.2.2.1 j (mIA_in hj))).trans (hM.2.1 j hj)
  · exact (hq _ (hM.2.2.2.2.1 j (mLA_in hj))).trans (hM.2.2.1 j hj)
theorem m_ald (hx : p.tables.exec = Jvm.exec) (hb : c.code = cc) (hK : xK D cA s) (hM : MR D cA A M ad σ H) (k : Nat) (hk : k ∈ mIA) {n : Nat} (hn : mLen k = n) {i : Int32} (j : Nat) (hi : i = nI j) (hj : j < n) (hn2 : n < 2 ^ 31) (hdg : decode cc pc = .ok (.iaload, 1))
    {v : Int32} (hv : σ.2.1 k j = v) (kk : W p l e R s m args below meth c H locs cells slots Q (F0 m (pc + 1) ls (.int v :: rest))) : W p l e R s m args below meth c H locs cells slots Q (F0 m pc ls (.int i :: .ref (ad k) :: rest)) := by
  subst hn hv
  exact x_iald hx hb hK (hM.2.1 k hk) j hi hj hn2 hdg kk
theorem m_aldL (hx : p.tables.exec = Jvm.exec) (hb : c.code = cc) (hK : xK D cA s) (hM : MR D cA A M ad σ H) (k : Nat) (hk : k ∈ mLA) {n : Nat} (hn : mLen k = n) {i : Int32} (j : Nat) (hi : i = nI j) (hj : j < n) (hn2 : n < 2 ^ 31) (hdg : decode cc pc = .ok (.laload, 1))
    {v : Int64} (hv : σ.2.2 k j = v) (kk : W p l e R s m args below meth c H locs cells slots Q (F0 m (pc + 1) ls (.long v :: rest))) : W p l e R s m args below meth c H locs cells slots Q (F0 m pc ls (.int i :: .ref (ad k) :: rest)) := by
  subst hn hv
  exact x_lald hx hb hK (hM.2.2.1 k hk) j hi hj hn2 hdg kk
theorem mup_at {α : Type} (f : Nat → Nat → α) (k j : Nat) (x : α) : mup f k j x k = fun b => if b = j then x else f k b := by
  funext b; simp [mup]
theorem mup_ne {α : Type} (f : Nat → Nat → α) {k k2 : Nat} (j : Nat) (x : α) (h : k2 ≠ k) : mup f k j x k2 = f k2 := by
  funext b; simp [mup, h]
theorem m_ast (hx : p.tables.exec = Jvm.exec) (hb : c.code = cc) (hK : xK D cA s) (hM : MR D cA A M ad σ H) (hS : va_S A H0 H locs) (k : Nat) (hk : k ∈ mIA) {n : Nat} (hn : mLen k = n) {i x : Int32} (j : Nat) (hi : i = nI j) (hj : j < n) (hn2 : n < 2 ^ 31) (hdg : decode cc pc = .ok (.iastore, 1))
    (kk : ∀ (H1 : Heap) (locs1 : List Loc), MR D cA A M ad (sa σ k j x) H1 → va_S A H0 H1 locs1 → W p l e R s m args below meth c H1 locs1 cells slots Q (F0 m (pc + 1) ls rest)) : W p l e R s m args below meth c H locs cells slots Q (F0 m pc ls (.int x :: .int i :: .ref (ad k) :: rest)) := by
  subst hn
  refine x_iast hx hb hK (hM.2.1 k hk) hS (hM.2.2.2.1.2 k) j hi hj hn2 hdg (fun H1 locs1 h1 _ hq hS1 => kk H1 locs1 ?_ hS1)
  refine ⟨va_at.kept hM.1 (hq M (Ne.symm (hM.2.2.2.2.1 k (mIA_in hk)))), fun k2 hk2 => ?_, fun k2 hk2 => ?_, hM.2.2.2⟩
  · by_cases hkk : k2 = k
    · subst hkk
      show H1[ad k2]? = some (vp_cell _ (_, .inl (mup σ.2.1 k2 j x k2)))
      rw [mup_at]; exact h1
    · show H1[ad k2]? = some (vp_cell _ (_, .inl (mup σ.2.1 k j x k2)))
      rw [mup_ne _ _ _ hkk]
      exact (hq _ (fun z => hkk (hM.2.2.2.2.2 k2 k (mIA_in hk2) (mIA_in hk) z))).trans (hM.2.1 k2 hk2)
  · exact (hq _ (fun z => m_apart hk2 hk (hM.2.2.2.2.2 k2 k (mLA_in hk2) (mIA_in hk) z))).trans (hM.2.2.1 k2 hk2)
theorem m_astL (hx : p.tables.exec = Jvm.exec) (hb : c.code = cc) (hK : xK D cA s) (hM : MR D cA A M ad σ H) (hS : va_S A H0 H locs) (k : Nat) (hk : k ∈ mLA) {n : Nat} (hn : mLen k = n) {i : Int32} {x : Int64} (j : Nat) (hi : i = nI j) (hj : j < n) (hn2 : n < 2 ^ 31) (hdg : decode cc pc = .ok (.lastore, 1))
    (kk : ∀ (H1 : Heap) (locs1 : List Loc), MR D cA A M ad (sl σ k j x) H1 → va_S A H0 H1 locs1 → W p l e R s m args below meth c H1 locs1 cells slots Q (F0 m (pc + 1) ls rest)) : W p l e R s m args below meth c H locs cells slots Q (F0 m pc ls (.long x :: .int i :: .ref (ad k) :: rest)) := by
  subst hn
  refine x_last hx hb hK (hM.2.2.1 k hk) hS (hM.2.2.2.1.2 k) j hi hj hn2 hdg (fun H1 locs1 h1 _ hq hS1 => kk H1 locs1 ?_ hS1)
  refine ⟨va_at.kept hM.1 (hq M (Ne.symm (hM.2.2.2.2.1 k (mLA_in hk)))), fun k2 hk2 => ?_, fun k2 hk2 => ?_, hM.2.2.2⟩
  · exact (hq _ (fun z => m_apart hk hk2 (hM.2.2.2.2.2 k2 k (mIA_in hk2) (mLA_in hk) z).symm)).trans (hM.2.1 k2 hk2)
  · by_cases hkk : k2 = k
    · subst hkk
      show H1[ad k2]? = some (vp_cell _ (_, .inr (.inl (mup σ.2.2 k2 j x k2))))
      rw [mup_at]; exact h1
    · show H1[ad k2]? = some (vp_cell _ (_, .inr (.inl (mup σ.2.2 k j x k2))))
      rw [mup_ne _ _ _ hkk]
      exact (hq _ (fun z => hkk (hM.2.2.2.2.2 k2 k (mLA_in hk2) (mLA_in hk) z))).trans (hM.2.2.1 k2 hk2)
end MW
/-! plain words -/
def inB (v lo hi : Int32) : Bool := decide (lo ≤ v) && decide (v ≤ hi)
