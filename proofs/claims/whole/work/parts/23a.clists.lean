/-! rows of equal cells; a list of java.util; what is cast -/
theorem arr_cong {C : ClassId} {n : Nat} {f g : Nat → Value} (h : ∀ i, i < n → f i = g i) : arrV C n f = arrV C n g := by
  unfold arrV
  have e : (fun j : Fin n => f j.val) = fun j : Fin n => g j.val := funext fun j => h j.val j.isLt
  rw [e]
theorem xI_cong {C : ClassId} {a n : Nat} {f g : Nat → Int32} {H : Heap} (h : xI C a n f H) (e : ∀ i, i < n → f i = g i) : xI C a n g H := by
  have e2 : arrV C n (fun j => Value.int (f j)) = arrV C n (fun j => Value.int (g j)) := arr_cong (fun i hi => by show Value.int (f i) = Value.int (g i); rw [e i hi])
  exact h.trans (congrArg some e2)
theorem xL_cong {C : ClassId} {a n : Nat} {f g : Nat → Int64} {H : Heap} (h : xL C a n f H) (e : ∀ i, i < n → f i = g i) : xL C a n g H := by
  have e2 : arrV C n (fun j => Value.long (f j)) = arrV C n (fun j => Value.long (g j)) := arr_cong (fun i hi => by show Value.long (f i) = Value.long (g i); rw [e i hi])
  exact h.trans (congrArg some e2)
theorem xQ_cong {C : ClassId} {a n : Nat} {f g : Nat → Option Nat} {H : Heap} (h : xQ C a n f H) (e : ∀ i, i < n → f i = g i) : xQ C a n g H := by
  have e2 : arrV C n (fun j => va_rf (f j)) = arrV C n (fun j => va_rf (g j)) := arr_cong (fun i hi => by show va_rf (f i) = va_rf (g i); rw [e i hi])
  exact h.trans (congrArg some e2)
/-- the list at a: n elements, els; lab tells the cells apart (kd: that of its row); while it is empty its row is z, the empty row that all lists share -/
def LST (D : va_G) (cA : Nat → ClassId) (lab : Nat → Nat) (kd z a n : Nat) (els : Nat → Nat) (H : Heap) : Prop := ∃ (mc : Int32) (d cap : Nat) (f : Nat → Option Nat), xO D a 0 [.int mc, .ref d, .int (nI n)] H ∧ (0 < n → xQ (cA 4) d cap f H) ∧ n ≤ cap ∧ cap ≤ 1000 ∧ (∀ j, j < n → f j = some (els j)) ∧ (0 < n → lab d = kd) ∧ (n = 0 → d = z)
section XCA
variable {p : Program} {l : Launch} {e : Env} {R : Room} {s : State} {m : MethodId} {args : Array Value} {below : List Frame} {meth : Method} {c : Code} {H : Heap} {locs : List Loc} {cells slots : Nat} {Q : State → Prop}
variable {pc : Nat} {ls : Array Slot} {rest : List Value} {cc : ByteArray} {D : va_G} {cA : Nat → ClassId} {a : Nat}
theorem x_cast (hx : p.tables.exec = Jvm.exec) (hb : c.code = cc) {own C : String} {T : u_T} {N ci index : Nat} (hown : s.vm.findClass own = some m.cls) (hlink : (Cond.classLink own index C).before args s = true) (hK : xK D cA s) {fs : List Value} (hO : xO D a ci fs H) (hc : vwCl[ci]? = some (C, T, N)) (hdg : decode cc pc = .ok (.checkcast index, 3))
    (kk : W p l e R s m args below meth c H locs cells slots Q (F0 m (pc + 3) ls (.ref a :: rest))) : W p l e R s m args below meth c H locs cells slots Q (F0 m pc ls (.ref a :: rest)) :=
  va_castS hx hb hown hlink (hK.1.1 ci _ hc).2 (va_recv (q0 := 0) hK.1 (x_one hO) hc rfl) hdg kk
end XCA
theorem xq_cat (o : Option Nat) : (va_rf o).category = 1 := by cases o <;> rfl
