/-! the class: its small words; ends that hand back a reference -/
section XAR
variable {p : Program} {l : Launch} {e : Env} {R : Room} {s : State} {m : MethodId} {args : Array Value} {below : List Frame} {meth : Method} {c : Code} {H : Heap} {locs : List Loc} {cells slots : Nat}
variable {pc : Nat} {ls : Array Slot} {cc : ByteArray}
theorem x_aret {Qc : Array Value → State → Outcome → State → Prop} {free : Addr → Prop} {v : Option Nat} {ty : FieldType} (hexec : p.tables.exec = Jvm.exec) (hb : c.code = cc) (hr : meth.sig.returnType = some ty) (hty : ty.isReference = true)
    (hq : ∀ t : State, t.heap = H → s.WarmedH t.vm → Qc args s (.returned (some (va_rf v))) t) (hf : ∀ q ∈ locs, free q.base)
    (hdg : decode cc pc = .ok (.areturn, 1)) (hlocks : meth.locks = false) : W p l e R s m args below meth c H locs cells slots (MQ below Qc args s cells slots free) (F0 m pc ls [va_rf v]) := by
  intro T hT X
  obtain ⟨fs, hret, hrun, hended, hW, hframe⟩ := X.leave (v := some (va_rf v)) (fun h => by rw [hr] at h; cases h)
  have hm' : T.vm.method? m = some meth := X.method'
  refine ⟨T.setFrames fs, ?_, .returned (some (va_rf v)), hrun, hended, hq _ hT hW, locs, ⟨⟨_, rfl⟩, hW, hframe⟩, hf⟩
  cases v with
  | none =>
    have hret : ∀ (f : JFrame) (acts : List Action), f.method = m → f.locked = none → f.entered = [] → (doReturn e (T.setTop f) acts (some Value.null)).1 = T.setFrames fs := hret
    show Steps p.tables e below (T.setTop (F0 m pc ls [.null])) (T.setFrames fs)
    jvm_step X.here [X.here.top, hexec, hb, hdg, hm', hr, narrow, Value.isRef, hty]
    (try refine ⟨rfl, ?_⟩); (try refine ⟨rfl, ?_⟩)
    first | (intro acts; rw [hret _ acts rfl rfl rfl]) | rw [hret _ _ rfl rfl rfl]
    exact Steps.refl _
  | some a =>
    have hret : ∀ (f : JFrame) (acts : List Action), f.method = m → f.locked = none → f.entered = [] → (doReturn e (T.setTop f) acts (some (Value.ref a))).1 = T.setFrames fs := hret
    show Steps p.tables e below (T.setTop (F0 m pc ls [.ref a])) (T.setFrames fs)
    jvm_step X.here [X.here.top, hexec, hb, hdg, hm', hr, narrow, Value.isRef, hty]
    (try refine ⟨rfl, ?_⟩); (try refine ⟨rfl, ?_⟩)
    first | (intro acts; rw [hret _ acts rfl rfl rfl]) | rw [hret _ _ rfl rfl rfl]
    exact Steps.refl _
theorem xr_aret {ty : FieldType} (hx : p.tables.exec = Jvm.exec) (hb : c.code = cc) (hr : meth.sig.returnType = some ty) (hty : ty.isReference = true) (hlocks : meth.locks = false) {v v' : Option Nat} (hv : v = v') (hdg : decode cc pc = .ok (.areturn, 1)) : W p l e R s m args below meth c s.heap [] 0 0 (MQ below (xR (some (va_rf v'))) args s 0 0 (fun _ => False)) (F0 m pc ls [va_rf v]) := by
  subst hv
  exact x_aret hx hb hr hty (fun t ht _ => ⟨rfl, ht⟩) (fun q h => nomatch h) hdg hlocks
theorem xw_aret {ty : FieldType} (hx : p.tables.exec = Jvm.exec) (hb : c.code = cc) (hr : meth.sig.returnType = some ty) (hty : ty.isReference = true) (hlocks : meth.locks = false) {J : Option Value → Heap → Prop} {A : Nat → Prop} {v : Option Nat} {mc ms : Nat} (hS : va_S A s.heap H locs) (hJ : J (some (va_rf v)) H) (h1 : cells ≤ mc) (h2 : slots ≤ ms) (hdg : decode cc pc = .ok (.areturn, 1)) : W p l e R s m args below meth c H locs cells slots (MQ below (xW J A) args s mc ms A) (F0 m pc ls [va_rf v]) := by
  refine W.widen h1 h2 ?_
  exact x_aret hx hb hr hty (fun t ht _ => ⟨⟨_, rfl, by rw [ht]; exact hJ⟩, hS.F ht⟩) hS.2.2 hdg hlocks
end XAR
theorem i_pos (v : Int32) : (1 ≤ v) ↔ 0 < v := by
  rw [Int32.le_iff_toInt_le, Int32.lt_iff_toInt_lt]
  have e1 : (1 : Int32).toInt = 1 := by decide
  have e0 : (0 : Int32).toInt = 0 := by decide
  omega
theorem i_below {v a b : Int32} (h : a.toInt + 1 = b.toInt) : (v ≤ a) ↔ v < b := by
  rw [Int32.le_iff_toInt_le, Int32.lt_iff_toInt_lt]
  omega
theorem okS_c (v : Int32) : okS v = (decide (0 ≤ v) && decide (v < 16)) := by
  unfold okS inB
  rw [show decide (v ≤ 15) = decide (v < 16) from by rw [decide_eq_decide]; exact i_below (by decide)]
theorem ok8_c (v : Int32) : ok8 v = (decide (0 ≤ v) && decide (v < 8)) := by
  unfold ok8 inB
  rw [show decide (v ≤ 7) = decide (v < 8) from by rw [decide_eq_decide]; exact i_below (by decide)]
theorem okO_c (v : Int32) : okO v = (decide (0 < v) && decide (v ≤ 9)) := by
  unfold okO inB
  rw [show decide (1 ≤ v) = decide (0 < v) from by rw [decide_eq_decide]; exact i_pos v]
theorem okW_c (v : Int32) : inB v 1 100 = (decide (0 < v) && decide (v ≤ 100)) := by
  unfold inB
  rw [show decide (1 ≤ v) = decide (0 < v) from by rw [decide_eq_decide]; exact i_pos v]
theorem okC_c (v : Int32) : inB v 0 11 = (decide (0 ≤ v) && decide (v < 12)) := by
  unfold inB
  rw [show decide (v ≤ 11) = decide (v < 12) from by rw [decide_eq_decide]; exact i_below (by decide)]
/-- what a selector may be together with -/
def cnF (q w : Int32) : Bool := inB q 0 3 && inB w 0 (mostF q)
theorem inB_one {w : Int32} : inB w 0 0 = decide (w = 0) := by
  unfold inB
  rw [Bool.eq_iff_iff]
  simp only [Bool.and_eq_true, decide_eq_true_eq, Int32.le_iff_toInt_le]
  rw [← Int32.toInt_inj]
  have e0 : (0 : Int32).toInt = 0 := by decide
  omega
theorem cnF_0 (w : Int32) : cnF 0 w = decide (w = 0) := by
  rw [cnF, show inB 0 0 3 = true from by decide, show mostF 0 = 0 from by decide, Bool.true_and, inB_one]
theorem cnF_1 (w : Int32) : cnF 1 w = ok8 w := by rw [cnF, show inB 1 0 3 = true from by decide, show mostF 1 = 7 from by decide, Bool.true_and]; rfl
theorem cnF_2 (w : Int32) : cnF 2 w = ok8 w := by rw [cnF, show inB 2 0 3 = true from by decide, show mostF 2 = 7 from by decide, Bool.true_and]; rfl
theorem cnF_3 (w : Int32) : cnF 3 w = inB w 0 11 := by rw [cnF, show inB 3 0 3 = true from by decide, show mostF 3 = 11 from by decide, Bool.true_and]
theorem cnF_n {q w : Int32} (h0 : ¬ q.toInt = 0) (h1 : ¬ q.toInt = 1) (h2 : ¬ q.toInt = 2) (h3 : ¬ q.toInt = 3) : cnF q w = false := by
  have : inB q 0 3 = false := by
    rw [Bool.eq_false_iff]
    intro h
    obtain ⟨a, b⟩ := inB_iff.mp h
    rw [Int32.le_iff_toInt_le] at a b
    have e0 : (0 : Int32).toInt = 0 := by decide
    have e3 : (3 : Int32).toInt = 3 := by decide
    omega
  rw [cnF, this, Bool.false_and]
/-- a layer of selector q for w: it is for a client of this number, region and group -/
def slF (q w g r c : Int32) : Bool := decide (q = 0) || decide ((if q = 1 then g else if q = 2 then r else c) = w)
def heF (h o : Int32) : Bool := decide (¬ h = 0) && decide (¬ h = o)
/-- the fields of a layer -/
abbrev lyV (num sel whi pre : Int32) (ho ro ch : Nat) : List Value := [.int num, .int sel, .int whi, .int pre, .ref ho, .ref ro, .ref ch]
