/-! a question of the class: readers that hand back some reference; the inquiry -/
/-- it only reads, and hands back a reference of which P holds -/
def xRq (P : Option Nat → Heap → Prop) : Array Value → State → Outcome → State → Prop := fun _ st o t => ∃ r : Option Nat, o = .returned (some (va_rf r)) ∧ P r st.heap ∧ t.heap = st.heap
section XRQ
variable {p : Program} {l : Launch} {e : Env} {R : Room} {s : State} {m : MethodId} {args : Array Value} {below : List Frame} {meth : Method} {c : Code} {H : Heap} {locs : List Loc} {cells slots : Nat} {Q : State → Prop}
variable {pc : Nat} {ls : Array Slot} {rest st0 : List Value} {a : Array Value} {cc : ByteArray}
theorem xr_callq {P : Option Nat → Heap → Prop} (hr : va_Run p l e R s m args below meth c H locs cells slots 0 0 (F0 m pc ls st0) rest (xRq P a) (fun _ => False))
    (kk : ∀ r, P r H → W p l e R s m args below meth c H locs cells slots Q (F0 m (pc + 3) ls (va_rf r :: rest))) : W p l e R s m args below meth c H locs cells slots Q (F0 m pc ls st0) := by
  intro T hT X
  obtain ⟨v, st₀, t, T', L, h0, X', hL, e1, -, ⟨r, hv, hP, hh⟩, st⟩ := hr T hT X
  cases hv
  obtain ⟨t2, a1, b1⟩ := kk r (by rw [← h0]; exact hP) T' (by rw [e1, hh, h0]) (Stand.forget X' (fun q h => (hL q h).elim))
  exact ⟨t2, st t2 a1, b1⟩
theorem xr_qret {ty : FieldType} {P : Option Nat → Heap → Prop} (hx : p.tables.exec = Jvm.exec) (hb : c.code = cc) (hr : meth.sig.returnType = some ty) (hty : ty.isReference = true) (hlocks : meth.locks = false) {v : Option Nat} (hv : P v s.heap) (hdg : decode cc pc = .ok (.areturn, 1)) : W p l e R s m args below meth c s.heap [] 0 0 (MQ below (xRq P) args s 0 0 (fun _ => False)) (F0 m pc ls [va_rf v]) :=
  x_aret hx hb hr hty (fun t ht _ => ⟨v, rfl, hv, ht⟩) (fun q h => nomatch h) hdg hlocks
end XRQ
/-- what the entries of a question hold: now, or in a version -/
def baF (f : Nat → Nat → Int32) (w : Option Nat) (k : Nat) : Int32 := match w with
  | none => f 7 k
  | some v => f 12 (128 * v + k)
def wrI (w : Option Nat) : Int32 := match w with
  | none => 1
  | some _ => 0
/-- the inquiry as begun for the client c and w; the rest of it by z -/
def INQ (D : va_G) (cA : Nat → ClassId) (lab : Nat → Nat) (nm : Nat → Nat → Nat) (f : Nat → Nat → Int32) (ie c : Nat) (w : Option Nat) (lo uw kn oc fa : Int32) (H : Heap) : Prop :=
  xO D (nm 9 0) 4 [.ref (nm 9 1), .int (nI c), .ref ie, .int (wrI w), .int lo, .int uw, .int kn, .int oc, .int fa] H ∧ ENT D cA lab ie (baF f w) H
theorem newE {D : va_G} {nm : Nat → Nat → Nat} {rf : Nat → Nat → Option Nat} {f : Nat → Nat → Int32} {H : Heap} {i b c : Nat} (hb : b < 16) (h : (rf i b = none ∧ f 10 (16 * i + b) = -1) ∨ (rf i b = some (nm 10 (16 * i + b)) ∧ 0 ≤ f 10 (16 * i + b) ∧ xO D (nm 10 (16 * i + b)) 6 [.ref (nm 11 (16 * i + b)), .int (f 10 (16 * i + b))] H ∧ eR D (some (nm 11 (16 * i + b))) (f 9 (16 * i + b)) H)) :
    (neF (rf i b) (nm 11 (16 * i + b)) (nI (bk c i b)) (f 10 (16 * i + b)) = none ∧ rolF f c (16 * i + b) none = false) ∨ (neF (rf i b) (nm 11 (16 * i + b)) (nI (bk c i b)) (f 10 (16 * i + b)) = some (nm 11 (16 * i + b)) ∧ rolF f c (16 * i + b) none = true ∧ eR D (some (nm 11 (16 * i + b))) (f 9 (16 * i + b)) H) := by
  have e1 : (16 * i + b) / 16 = i := by omega
  have e2 : (16 * i + b) % 16 = b := by omega
  rcases h with ⟨h1, h2⟩ | ⟨h1, h2, h3, h4⟩
  · left
    refine ⟨by rw [h1]; rfl, ?_⟩
    unfold rolF
    rw [h2]
    rfl
  · by_cases hk : nI (bk c i b) < f 10 (16 * i + b)
    · right
      refine ⟨by rw [h1, neF, if_pos hk], ?_, h4⟩
      unfold rolF
      rw [e1, e2, decide_eq_true h2, decide_eq_true hk]
      rfl
    · left
      refine ⟨by rw [h1, neF, if_neg hk], ?_⟩
      unfold rolF
      rw [e1, e2, decide_eq_false hk, Bool.and_false]
theorem shw_t {f : Nat → Nat → Int32} {c k : Nat} (h : rolF f c k none = true) : shwF f c k none = f 9 k := by unfold shwF; rw [if_pos h]
theorem shw_f {f : Nat → Nat → Int32} {c k : Nat} {w : Option Nat} (h : rolF f c k w = false) : shwF f c k w = baF f w k := by
  unfold shwF
  rw [h]
  cases w <;> rfl
theorem decO_1 {f : Nat → Nat → Int32} {c b : Nat} {w : Option Nat} {i : Nat} : decO f c b w (i + 1) = if (forF f i c && (decide (0 < shwF f c (16 * i + b) w) && decS f i (decO f c b w i))) = true then some i else decO f c b w i := by rw [decO]
