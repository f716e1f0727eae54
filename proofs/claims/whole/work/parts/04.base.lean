/-! BASE: single cells; what the tables give, for every state; a contract form for methods that only read (xR) and for methods that write (xW) -/
abbrev xO (D : va_G) (q ci : Nat) (fs : List Value) (H : Heap) : Prop := va_at D vwCl (q, .inr (ci, fs)) H
abbrev xI (c : ClassId) (q n : Nat) (f : Nat → Int32) (H : Heap) : Prop := H[q]? = some (vp_cell c (n, .inl f))
abbrev xL (c : ClassId) (q n : Nat) (f : Nat → Int64) (H : Heap) : Prop := H[q]? = some (vp_cell c (n, .inr (.inl f)))
abbrev xQ (c : ClassId) (q n : Nat) (f : Nat → Option Nat) (H : Heap) : Prop := H[q]? = some (vp_cell c (n, .inr (.inr (.inr (.inr f)))))
theorem x_one {D : va_G} {q : Nat × va_E} {H : Heap} (h : va_at D vwCl q H) : va_P D vwCl [q] H := by
  intro k q' hk
  match k, hk with
  | 0, hk => cases hk; exact h
  | k + 1, hk => simp at hk
abbrev xTy (cA : Nat → ClassId) : List (ClassId × FieldType) := [(cA 0, .int), (cA 1, .long), (cA 2, .object "ConfigBeacon$Entry"), (cA 3, .object "ConfigBeacon$Rollout"), (cA 4, .object "java/lang/Object")]
def xNestM : List (String × Nat × MethodName) := [("ConfigBeacon$Inquiry", 42, yX6_bit), ("ConfigBeacon", 31, yX1_init), ("ConfigBeacon", 24, yX3_init)]
def xNestF : List (String × Nat × String × String × String) := [("ConfigBeacon$Layer", 52, "ConfigBeacon$Rollout", "entry", "LConfigBeacon$Entry;"), ("ConfigBeacon$Layer", 49, "ConfigBeacon$Rollout", "share", "I"), ("ConfigBeacon$Layer", 42, "ConfigBeacon$Client", "group", "I"), ("ConfigBeacon$Layer", 37, "ConfigBeacon$Client", "region", "I"), ("ConfigBeacon", 92, "ConfigBeacon$Layer", "precedence", "I"), ("ConfigBeacon", 74, "ConfigBeacon$Client", "group", "I"), ("ConfigBeacon", 70, "ConfigBeacon$Client", "region", "I"), ("ConfigBeacon", 323, "ConfigBeacon$Inquiry", "entries", "LConfigBeacon$Entries;"), ("ConfigBeacon", 319, "ConfigBeacon$Inquiry", "withRollouts", "Z"), ("ConfigBeacon", 316, "ConfigBeacon$Inquiry", "client", "I"), ("ConfigBeacon", 309, "ConfigBeacon$Entry", "second", "I"), ("ConfigBeacon", 302, "ConfigBeacon$Entry", "first", "I"), ("ConfigBeacon", 299, "ConfigBeacon$Entry", "base", "I"), ("ConfigBeacon", 292, "ConfigBeacon$Inquiry", "underWay", "I"), ("ConfigBeacon", 230, "ConfigBeacon$Inquiry", "looked", "I"), ("ConfigBeacon", 217, "ConfigBeacon$Inquiry", "failing", "I"), ("ConfigBeacon", 213, "ConfigBeacon$Inquiry", "values", "[J"), ("ConfigBeacon", 210, "ConfigBeacon$Inquiry", "outcome", "I"), ("ConfigBeacon", 190, "ConfigBeacon$Layer", "changes", "[I"), ("ConfigBeacon", 180, "ConfigBeacon$Layer", "holders", "[I"), ("ConfigBeacon", 168, "ConfigBeacon$Rollout", "entry", "LConfigBeacon$Entry;"), ("ConfigBeacon", 156, "ConfigBeacon$Rollout", "share", "I"), ("ConfigBeacon", 141, "ConfigBeacon$Layer", "rollouts", "[LConfigBeacon$Rollout;")]
def xCast : List (String × String) := [("ConfigBeacon$Client", "java/lang/Object"), ("ConfigBeacon$Layer", "java/lang/Object"), ("ConfigBeacon$Entries", "java/lang/Object")]
/-- the tables: classes, array classes, private members of nest mates, arrays of references -/
def xK (D : va_G) (cA : Nat → ClassId) (U : State) : Prop := va_K D vwCl (xTy cA) U ∧ (∀ q ∈ xNestM, va_Nw (.methodLinkNest q.1 q.2.1 q.2.2 "ConfigBeacon") U) ∧ (∀ q ∈ xNestF, va_Nw (.fieldLinkNest q.1 q.2.1 q.2.2.1 q.2.2.2.1 q.2.2.2.2 "ConfigBeacon") U) ∧ va_AO "ConfigBeacon$Entry" U ∧ va_AO "ConfigBeacon$Rollout" U ∧ va_AO "java/lang/Object" U ∧ (∃ mi, va_Mi "[Ljava/lang/Object;" mi U) ∧ va_Dc U ∧ ∀ q ∈ xCast, va_Nw (.castable q.1 q.2) U
theorem xK.warm {D : va_G} {cA : Nat → ClassId} {s U : State} (h : xK D cA s) (hW : s.WarmedH U.vm) : xK D cA U :=
  ⟨va_K.moved hW.alike h.1, fun q hq => va_Nw.warmM hW (h.2.1 q hq), fun q hq => va_Nw.warmF hW (h.2.2.1 q hq), h.2.2.2.1.moved hW.alike, h.2.2.2.2.1.moved hW.alike, h.2.2.2.2.2.1.moved hW.alike, h.2.2.2.2.2.2.1.elim (fun mi hm => ⟨mi, hm.moved hW.alike⟩), h.2.2.2.2.2.2.2.1.moved hW.alike, fun q hq => va_Nw.warmC hW (h.2.2.2.2.2.2.2.2 q hq)⟩
theorem xK.same {D : va_G} {cA : Nat → ClassId} {s U : State} (h : xK D cA s) (hv : s.vm = U.vm) : xK D cA U :=
  ⟨va_K.moved (by rw [hv]; exact Vm.Alike.refl U.vm) h.1, fun q hq => va_Nw.same rfl hv (h.2.1 q hq), fun q hq => va_Nw.same rfl hv (h.2.2.1 q hq), h.2.2.2.1.moved (by rw [hv]; exact Vm.Alike.refl U.vm), h.2.2.2.2.1.moved (by rw [hv]; exact Vm.Alike.refl U.vm), h.2.2.2.2.2.1.moved (by rw [hv]; exact Vm.Alike.refl U.vm), h.2.2.2.2.2.2.1.elim (fun mi hm => ⟨mi, hm.moved (by rw [hv]; exact Vm.Alike.refl U.vm)⟩), h.2.2.2.2.2.2.2.1.moved (by rw [hv]; exact Vm.Alike.refl U.vm), fun q hq => va_Nw.same rfl hv (h.2.2.2.2.2.2.2.2 q hq)⟩
/-- a method's start: its arguments, the tables, what it asks of the heap -/
def xP (D : va_G) (cA : Nat → ClassId) (av : List Value) (I : Heap → Prop) : Array Value → State → Prop := fun v U => v = av.toArray ∧ xK D cA U ∧ I U.heap
theorem xP_blind {D : va_G} {cA : Nat → ClassId} {av : List Value} {I : Heap → Prop} : FrameBlind (xP D cA av I) := fun a U g mk h => ⟨h.1, xK.same (U := U.calling g mk a) h.2.1 rfl, h.2.2⟩
theorem xPS {D : va_G} {cA : Nat → ClassId} {As : List Value} {I : Heap → Prop} {s : State} {H : Heap} (hK : xK D cA s) (hI : I H) : PreS s H (xP D cA As I) As := ⟨xP_blind, fun U hU hW => ⟨rfl, hK.warm hW, by rw [hU]; exact hI⟩⟩
theorem xPV {D : va_G} {cA : Nat → ClassId} {As : List Value} {I : Heap → Prop} {s : State} {H : Heap} {b ci : Nat} {q : vw_C} {fs : List Value} (hK : xK D cA s) (hO : xO D b ci fs H) (hc : vwCl[ci]? = some q) (hI : I H) : PreV s H q.1 b (xP D cA (.ref b :: As) I) As := ⟨xP_blind, va_recv hK.1 (x_one hO) (ci := ci) (q0 := 0) hc rfl, fun U hU hW => ⟨rfl, hK.warm hW, by rw [hU]; exact hI⟩⟩
/-- it only reads: its answer is r, the heap is what it was -/
def xR (r : Option Value) : Array Value → State → Outcome → State → Prop := fun _ st o t => o = .returned r ∧ t.heap = st.heap
/-- it writes inside A, or makes cells: its answer r and the heap behind it are J's -/
def xW (J : Option Value → Heap → Prop) (A : Nat → Prop) : Array Value → State → Outcome → State → Prop := fun _ st o t => (∃ r, o = .returned r ∧ J r t.heap) ∧ va_F A st t
def bI (b : Bool) : Int32 := if b then 1 else 0
theorem bI_t {b : Bool} (h : b = true) : bI b = 1 := by rw [h]; rfl
theorem bI_f {b : Bool} (h : b = false) : bI b = 0 := by rw [h]; rfl
theorem bI_eq0 {b : Bool} : bI b = 0 ↔ b = false := by cases b <;> decide
theorem bI_ne0 {b : Bool} : ¬ bI b = 0 ↔ b = true := by cases b <;> decide
theorem bI_nar (b : Bool) : narrow .boolean (.int (bI b)) = .int (bI b) := by cases b <;> decide
theorem bI_inj {a b : Bool} : bI a = bI b ↔ a = b := by cases a <;> cases b <;> decide
section XB
variable {p : Program} {l : Launch} {e : Env} {R : Room} {s : State} {m : MethodId} {args : Array Value} {below : List Frame} {meth : Method} {c : Code} {H : Heap} {locs : List Loc} {cells slots : Nat} {Q : State → Prop}
variable {pc : Nat} {ls : Array Slot} {rest st0 : List Value} {a : Array Value} {A0 A1 : Nat → Prop} {H0 : Heap} {mc ms : Nat} {free : Addr → Prop} {cc : ByteArray}
/-- behind a call that only reads -/
theorem xr_call {r : Value} (hr : va_Run p l e R s m args below meth c H locs cells slots 0 0 (F0 m pc ls st0) rest (xR (some r) a) (fun _ => False))
    (kk : W p l e R s m args below meth c H locs cells slots Q (F0 m (pc + 3) ls (r :: rest))) : W p l e R s m args below meth c H locs cells slots Q (F0 m pc ls st0) := by
  intro T hT X
  obtain ⟨v, st₀, t, T', L, h0, X', hL, e1, -, ⟨hv, hh⟩, st⟩ := hr T hT X
  cases hv
  obtain ⟨t2, a1, b1⟩ := kk T' (by rw [e1, hh, h0]) (Stand.forget X' (fun q h => (hL q h).elim))
  exact ⟨t2, st t2 a1, b1⟩
theorem xr_callv (hr : va_Run p l e R s m args below meth c H locs cells slots 0 0 (F0 m pc ls st0) rest (xR none a) (fun _ => False))
    (kk : W p l e R s m args below meth c H locs cells slots Q (F0 m (pc + 3) ls rest)) : W p l e R s m args below meth c H locs cells slots Q (F0 m pc ls st0) := by
  intro T hT X
  obtain ⟨v, st₀, t, T', L, h0, X', hL, e1, -, ⟨hv, hh⟩, st⟩ := hr T hT X
  cases hv
  obtain ⟨t2, a1, b1⟩ := kk T' (by rw [e1, hh, h0]) (Stand.forget X' (fun q h => (hL q h).elim))
  exact ⟨t2, st t2 a1, b1⟩
/-- behind a call that writes -/
theorem xw_call {J : Option Value → Heap → Prop} (hr : va_Run p l e R s m args below meth c H locs cells slots mc ms (F0 m pc ls st0) rest (xW J A1 a) free) (hS : va_S A0 H0 H locs) (hA : ∀ q, q < H.size → A1 q → A0 q) (hf : ∀ q, free q → A0 q)
    (kk : ∀ (r : Option Value) (H1 : Heap) (locs1 : List Loc), J r H1 → H.size ≤ H1.size → (∀ q : Nat, q < H.size → ¬ A1 q → H1[q]? = H[q]?) → va_S A0 H0 H1 locs1 → W p l e R s m args below meth c H1 locs1 (cells + mc) (slots + ms) Q (F0 m (pc + 3) ls (r.toList ++ rest))) : W p l e R s m args below meth c H locs cells slots Q (F0 m pc ls st0) := by
  intro T hT X
  obtain ⟨v, st₀, t, T', L, h0, X', hL, e1, e2, ⟨⟨r, hv, hJ⟩, hz, hk⟩, st⟩ := hr T hT X
  cases hv
  rw [h0] at hz hk
  obtain ⟨t2, a1, b1⟩ := kk v T'.heap (locs ++ L) (by rw [e1]; exact hJ) (by rw [e1]; exact hz) (fun q h1 h2 => by rw [e1]; exact hk q h1 h2)
    ⟨Nat.le_trans hS.1 (by rw [e1]; exact hz), fun q h1 h2 => by rw [e1, hk q (Nat.lt_of_lt_of_le h1 hS.1) (fun z => h2 (hA q (Nat.lt_of_lt_of_le h1 hS.1) z))]; exact hS.2.1 q h1 h2, fun q hq => by
      rcases List.mem_append.mp hq with h | h
      · exact hS.2.2 q h
      · exact hf _ (hL q h)⟩ T' rfl X'
  exact ⟨t2, st t2 a1, b1⟩
/-- ends -/
theorem xr_iret (hx : p.tables.exec = Jvm.exec) (hb : c.code = cc) (hr : meth.sig.returnType = some .int) (hlocks : meth.locks = false) {v v' : Int32} (hv : v = v') (hdg : decode cc pc = .ok (.ireturn, 1)) : W p l e R s m args below meth c s.heap [] 0 0 (MQ below (xR (some (.int v'))) args s 0 0 (fun _ => False)) (F0 m pc ls [.int v]) := by
  subst hv
  exact W.iret hx hb hr (fun t ht _ => ⟨rfl, ht⟩) (fun q h => nomatch h) hdg
theorem xr_zret (hx : p.tables.exec = Jvm.exec) (hb : c.code = cc) (hr : meth.sig.returnType = some .boolean) (hlocks : meth.locks = false) {v : Int32} {b : Bool} (hv : v = bI b) (hdg : decode cc pc = .ok (.ireturn, 1)) : W p l e R s m args below meth c s.heap [] 0 0 (MQ below (xR (some (.int (bI b)))) args s 0 0 (fun _ => False)) (F0 m pc ls [.int v]) := by
  subst hv
  exact W.zret hx hb hr (bI_nar b) (fun t ht _ => ⟨rfl, ht⟩) (fun q h => nomatch h) hdg
theorem xr_lret (hx : p.tables.exec = Jvm.exec) (hb : c.code = cc) (hr : meth.sig.returnType = some .long) (hlocks : meth.locks = false) {v v' : Int64} (hv : v = v') (hdg : decode cc pc = .ok (.lreturn, 1)) : W p l e R s m args below meth c s.heap [] 0 0 (MQ below (xR (some (.long v'))) args s 0 0 (fun _ => False)) (F0 m pc ls [.long v]) := by
  subst hv
  exact W.lret hx hb hr (fun t ht _ => ⟨rfl, ht⟩) (fun q h => nomatch h) hdg
theorem xw_iret (hx : p.tables.exec = Jvm.exec) (hb : c.code = cc) (hr : meth.sig.returnType = some .int) (hlocks : meth.locks = false) {J : Option Value → Heap → Prop} {A : Nat → Prop} {v : Int32} (hS : va_S A s.heap H locs) (hJ : J (some (.int v)) H) (h1 : cells ≤ mc) (h2 : slots ≤ ms) (hdg : decode cc pc = .ok (.ireturn, 1)) : W p l e R s m args below meth c H locs cells slots (MQ below (xW J A) args s mc ms A) (F0 m pc ls [.int v]) := by
  refine W.widen h1 h2 ?_
  exact W.iret hx hb hr (fun t ht _ => ⟨⟨_, rfl, by rw [ht]; exact hJ⟩, hS.F ht⟩) hS.2.2 hdg
theorem xw_zret (hx : p.tables.exec = Jvm.exec) (hb : c.code = cc) (hr : meth.sig.returnType = some .boolean) (hlocks : meth.locks = false) {J : Option Value → Heap → Prop} {A : Nat → Prop} {v : Int32} {b : Bool} (hv : v = bI b) (hS : va_S A s.heap H locs) (hJ : J (some (.int (bI b))) H) (h1 : cells ≤ mc) (h2 : slots ≤ ms) (hdg : decode cc pc = .ok (.ireturn, 1)) : W p l e R s m args below meth c H locs cells slots (MQ below (xW J A) args s mc ms A) (F0 m pc ls [.int v]) := by
  refine W.widen h1 h2 ?_
  subst hv
  exact W.zret hx hb hr (bI_nar b) (fun t ht _ => ⟨⟨_, rfl, by rw [ht]; exact hJ⟩, hS.F ht⟩) hS.2.2 hdg
theorem xw_lret (hx : p.tables.exec = Jvm.exec) (hb : c.code = cc) (hr : meth.sig.returnType = some .long) (hlocks : meth.locks = false) {J : Option Value → Heap → Prop} {A : Nat → Prop} {v : Int64} (hS : va_S A s.heap H locs) (hJ : J (some (.long v)) H) (h1 : cells ≤ mc) (h2 : slots ≤ ms) (hdg : decode cc pc = .ok (.lreturn, 1)) : W p l e R s m args below meth c H locs cells slots (MQ below (xW J A) args s mc ms A) (F0 m pc ls [.long v]) := by
  refine W.widen h1 h2 ?_
  exact W.lret hx hb hr (fun t ht _ => ⟨⟨_, rfl, by rw [ht]; exact hJ⟩, hS.F ht⟩) hS.2.2 hdg
theorem xw_vret (hx : p.tables.exec = Jvm.exec) (hb : c.code = cc) (hr : meth.sig.returnType = none) (hlocks : meth.locks = false) {J : Option Value → Heap → Prop} {A : Nat → Prop} (hS : va_S A s.heap H locs) (hJ : J none H) (h1 : cells ≤ mc) (h2 : slots ≤ ms) (hdg : decode cc pc = .ok (.return_, 1)) : W p l e R s m args below meth c H locs cells slots (MQ below (xW J A) args s mc ms A) (F0 m pc ls []) := by
  refine W.widen h1 h2 ?_
  exact W.vret hx hb hr (fun t ht _ => ⟨⟨_, rfl, by rw [ht]; exact hJ⟩, hS.F ht⟩) hS.2.2 hdg
/-- branches on a boolean answer -/
theorem xb_eq (hx : p.tables.exec = Jvm.exec) (hb : c.code = cc) {b : Bool} {off : Int} {tgt : Nat} (hdg : decode cc pc = .ok (.ifCond .eq off, 3)) (ht : (pc : Int) + off = (tgt : Int))
    (k1 : b = false → W p l e R s m args below meth c H locs cells slots Q (F0 m tgt ls rest)) (k2 : b = true → W p l e R s m args below meth c H locs cells slots Q (F0 m (pc + 3) ls rest)) : W p l e R s m args below meth c H locs cells slots Q (F0 m pc ls (.int (bI b) :: rest)) :=
  lv_if_eq hx hb hdg ht (fun h => k1 (bI_eq0.mp h)) (fun h => k2 (bI_ne0.mp h))
theorem xb_ne (hx : p.tables.exec = Jvm.exec) (hb : c.code = cc) {b : Bool} {off : Int} {tgt : Nat} (hdg : decode cc pc = .ok (.ifCond .ne off, 3)) (ht : (pc : Int) + off = (tgt : Int))
    (k1 : b = true → W p l e R s m args below meth c H locs cells slots Q (F0 m tgt ls rest)) (k2 : b = false → W p l e R s m args below meth c H locs cells slots Q (F0 m (pc + 3) ls rest)) : W p l e R s m args below meth c H locs cells slots Q (F0 m pc ls (.int (bI b) :: rest)) :=
  lv_if_ne hx hb hdg ht (fun h => k1 (bI_ne0.mp h)) (fun h => k2 (bI_eq0.mp h))
end XB
