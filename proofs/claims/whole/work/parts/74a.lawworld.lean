/-! what the tables and the start say of the state -/
theorem wd_eq {t : Term} {z : Int32} {args : Array Value} {s : State} (h : (Cond.eq t (.int z)).before args s = true) : t.eval args s none [] s = some (.int z) := by
  cases hv : t.eval args s none [] s with
  | none => simp [Cond.before, Cond.holds, Cond.value, hv] at h
  | some w =>
    have hz : (Term.int z).eval args s none [] s = some (.int z) := rfl
    simp only [Cond.before, Cond.holds, Cond.value, hv, hz] at h
    cases w <;> simp_all
theorem wd_arr {args : Array Value} {s : State} {ty : FieldType} (hp : ∀ c, ty ≠ .object c) (h : (Cond.arrayClass ty).before args s = true) : ∃ cA, ArrOfT s cA ty ∧ va_RA s cA ty := by
  obtain ⟨c, k, comp, h1, h2, h3⟩ := Cond.arrayClass_spec (first := s) (o := none) (idx := []) h
  refine ⟨c, fun n z => ⟨fun k h => (by cases h), k, h2, comp, h3⟩, ?_⟩
  cases ty with
  | object C => exact absurd rfl (hp C)
  | _ => exact h1
theorem wd_arrO {args : Array Value} {s : State} {C : String} (h : (Cond.arrayOver (.object C)).before args s = true) : ∃ cA, ArrOfT s cA (.object C) ∧ va_RA s cA (.object C) := by
  obtain ⟨comp, c, k, h1, h2, h3, h4, h5⟩ := Cond.arrayOver_spec (first := s) (o := none) (idx := []) h
  exact ⟨c, fun n z => ⟨fun k h => (by cases h), k, h3, comp, h4⟩, k, comp, h3, h4, h1, h5⟩
theorem wd_str {own tx : String} {k : Nat} {args : Array Value} {s : State} (h1 : (Cond.stringRef own k tx).before args s = true) (h2 : (Cond.exactly (.string own k) "java/lang/String").before args s = true) : ∃ a, vk_R own k tx a s := by
  obtain ⟨a, c, cell, kk, ha, -⟩ := Cond.exactly_spec (first := s) (o := none) (idx := []) h2
  exact ⟨a, vk_R.of h1 ha⟩
theorem wd_nM : ∀ q ∈ xNestM, Cond.methodLinkNest q.1 q.2.1 q.2.2 "ConfigBeacon" ∈ lw_tbl := by decide +kernel
theorem wd_nF : ∀ q ∈ xNestF, Cond.fieldLinkNest q.1 q.2.1 q.2.2.1 q.2.2.2.1 q.2.2.2.2 "ConfigBeacon" ∈ lw_tbl := by decide +kernel
theorem wd_ca : ∀ q ∈ xCast, Cond.castable q.1 q.2 ∈ lw_tbl := by decide +kernel
theorem wd_de : ∀ y ∈ xDecl, Cond.declares (Bundle.initS y) ∈ lw_tbl := by decide +kernel
theorem wd_cx : ∀ x ∈ xSelf, Cond.castable x x ∈ lw_tbl := by decide +kernel
theorem wd_nc : ∀ x ∈ xSelf, ∀ y ∈ xSelf, x ≠ y → Cond.not (.castable x y) ∈ flatC (Jvm.Cond.and given_1 narrow_1) := by decide +kernel
section WDK
variable {s : State} {b : Nat} {args : Array Value}
theorem xK_of (hts : ∀ w ∈ lw_tbl, w.before args s = true) (hgv : (Jvm.Cond.and given_1 narrow_1).before args s = true) : ∃ (D : va_G) (cA : Nat → ClassId), xK D cA s := by
  have hs := flat_of_before _ hgv
  obtain ⟨c0, i0, k0⟩ := u_known (C := RJx4a65c) (T := TJx4a65c) (N := 3) (n := 3) hts inJx4a65c (hts (.instantiable RJx4a65c 3) (by decide +kernel))
  obtain ⟨c1, i1, k1⟩ := u_known (C := RX0) (T := TX0) (N := 2) (n := 2) hts inX0 (hts (.instantiable RX0 2) (by decide +kernel))
  obtain ⟨c2, i2, k2⟩ := u_known (C := RX1) (T := TX1) (N := 1) (n := 1) hts inX1 (hts (.instantiable RX1 1) (by decide +kernel))
  obtain ⟨c3, i3, k3⟩ := u_known (C := RX2) (T := TX2) (N := 3) (n := 3) hts inX2 (hts (.instantiable RX2 3) (by decide +kernel))
  obtain ⟨c4, i4, k4⟩ := u_known (C := RX3) (T := TX3) (N := 9) (n := 9) hts inX3 (hts (.instantiable RX3 9) (by decide +kernel))
  obtain ⟨c5, i5, k5⟩ := u_known (C := RX4) (T := TX4) (N := 7) (n := 7) hts inX4 (hts (.instantiable RX4 7) (by decide +kernel))
  obtain ⟨c6, i6, k6⟩ := u_known (C := RX5) (T := TX5) (N := 2) (n := 2) hts inX5 (hts (.instantiable RX5 2) (by decide +kernel))
  obtain ⟨c7, i7, k7⟩ := u_known (C := RX6) (T := TX6) (N := 5) (n := 5) hts inX6 (hts (.instantiable RX6 5) (by decide +kernel))
  obtain ⟨c8, i8, k8⟩ := u_known (C := RX7) (T := TX7) (N := 26) (n := 26) hts inX7 (hts (.instantiable RX7 26) (by decide +kernel))
  obtain ⟨a0, ha0⟩ := wd_arr (ty := .int) (fun _ h => by cases h) (hts (.arrayClass .int) (by decide +kernel))
  obtain ⟨a1, ha1⟩ := wd_arr (ty := .long) (fun _ h => by cases h) (hts (.arrayClass .long) (by decide +kernel))
  have w2 := hts (.arrayOver (.object "ConfigBeacon$Entry")) (by decide +kernel)
  have w3 := hts (.arrayOver (.object "ConfigBeacon$Rollout")) (by decide +kernel)
  have w4 := hts (.arrayOver (.object "java/lang/Object")) (by decide +kernel)
  obtain ⟨a2, ha2⟩ := wd_arrO w2
  obtain ⟨a3, ha3⟩ := wd_arrO w3
  obtain ⟨a4, ha4⟩ := wd_arrO w4
  obtain ⟨mi, hmi⟩ := va_Mi.of (hs (.isRef (.mirror "[Ljava/lang/Object;")) (by decide +kernel))
  have hdc := va_Dc.of (hts (.declares ⟨"java/lang/Object", "getClass", "()Ljava/lang/Class;"⟩) (by decide +kernel))
  refine ⟨(fun k => if k = 0 then c0 else if k = 1 then c1 else if k = 2 then c2 else if k = 3 then c3 else if k = 4 then c4 else if k = 5 then c5 else if k = 6 then c6 else if k = 7 then c7 else c8, fun k => if k = 0 then i0 else if k = 1 then i1 else if k = 2 then i2 else if k = 3 then i3 else if k = 4 then i4 else if k = 5 then i5 else if k = 6 then i6 else if k = 7 then i7 else i8), fun k => if k = 0 then a0 else if k = 1 then a1 else if k = 2 then a2 else if k = 3 then a3 else a4, ⟨fun k q hq => ?_, fun k q hq => ?_⟩, fun q hq => va_Nw.of rfl (hts _ (wd_nM q hq)), fun q hq => va_Nw.of rfl (hts _ (wd_nF q hq)), va_AO.of w2, va_AO.of w3, va_AO.of w4, ⟨mi, hmi⟩, hdc, fun q hq => va_Nw.of rfl (hts _ (wd_ca q hq))⟩
  · match k, hq with
    | 0, hq => cases hq; exact k0
    | 1, hq => cases hq; exact k1
    | 2, hq => cases hq; exact k2
    | 3, hq => cases hq; exact k3
    | 4, hq => cases hq; exact k4
    | 5, hq => cases hq; exact k5
    | 6, hq => cases hq; exact k6
    | 7, hq => cases hq; exact k7
    | 8, hq => cases hq; exact k8
    | k + 9, hq => simp [vwCl] at hq
  · match k, hq with
    | 0, hq => cases hq; exact ha0
    | 1, hq => cases hq; exact ha1
    | 2, hq => cases hq; exact ha2
    | 3, hq => cases hq; exact ha3
    | 4, hq => cases hq; exact ha4
    | k + 5, hq => simp [xTy] at hq
theorem lK_of (hts : ∀ w ∈ lw_tbl, w.before args s = true) (hgv : (Jvm.Cond.and given_1 narrow_1).before args s = true) : ∃ z, lK (fun q => s.heap.size ≤ q) z s := by
  have hs := flat_of_before _ hgv
  have hA : ∀ a : Nat, a < s.heap.size → ¬ (fun q : Nat => s.heap.size ≤ q) a := fun a h => Nat.not_le.mpr h
  have e0 := wd_eq (hs (.eq (.length (.static "java/util/ArrayList" "DEFAULTCAPACITY_EMPTY_ELEMENTDATA" "[Ljava/lang/Object;")) (.int 0)) (by decide +kernel))
  obtain ⟨z, hz, hT⟩ := va_Tof (tm := .static "java/util/ArrayList" "DEFAULTCAPACITY_EMPTY_ELEMENTDATA" "[Ljava/lang/Object;") (ty := .object "java/lang/Object") (N := 0) (f := fun _ => .null) (A := fun q : Nat => s.heap.size ≤ q) (by decide) (hs (.arrayOf (.static "java/util/ArrayList" "DEFAULTCAPACITY_EMPTY_ELEMENTDATA" "[Ljava/lang/Object;") (.object "java/lang/Object")) (by decide +kernel)) e0 (fun j hj => absurd hj (Nat.not_lt_zero j)) hA
  have hZ := va_Zof (hts (.laysStatic "java/util/ArrayList" "DEFAULTCAPACITY_EMPTY_ELEMENTDATA" "[Ljava/lang/Object;") (by decide +kernel)) (hts (.initialized "java/util/ArrayList") (by decide +kernel)) hz hA
  have hU := vx_Zqof (hts (.laysStatic Bundle.tN "UNASSIGNED_STACK" Bundle.steD) (by decide +kernel)) (hts (.initialized Bundle.tN) (by decide +kernel)) (hs (.isRef (.static Bundle.tN "UNASSIGNED_STACK" Bundle.steD)) (by decide +kernel)) hA
  have hV := vx_Zqof (hts (.laysStatic Bundle.tN "SUPPRESSED_SENTINEL" Bundle.listD) (by decide +kernel)) (hts (.initialized Bundle.tN) (by decide +kernel)) (hs (.isRef (.static Bundle.tN "SUPPRESSED_SENTINEL" Bundle.listD)) (by decide +kernel)) hA
  have t1 := wd_str (hts (.stringRef "ConfigBeacon" 242 "there is no such client, layer, setting or version") (by decide +kernel)) (hs (.exactly (.string "ConfigBeacon" 242) "java/lang/String") (by decide +kernel))
  have t2 := wd_str (hts (.stringRef "ConfigBeacon" 246 "an argument is out of its range") (by decide +kernel)) (hs (.exactly (.string "ConfigBeacon" 246) "java/lang/String") (by decide +kernel))
  have t3 := wd_str (hts (.stringRef "ConfigBeacon" 249 "not possible in this state") (by decide +kernel)) (hs (.exactly (.string "ConfigBeacon" 249) "java/lang/String") (by decide +kernel))
  have t4 := wd_str (hts (.stringRef "ConfigBeacon" 101 "no layer has this place") (by decide +kernel)) (hs (.exactly (.string "ConfigBeacon" 101) "java/lang/String") (by decide +kernel))
  have t5 := wd_str (hts (.stringRef "ConfigBeacon" 161 "locked, no rollout, or not a greater share") (by decide +kernel)) (hs (.exactly (.string "ConfigBeacon" 161) "java/lang/String") (by decide +kernel))
  have t6 := wd_str (hts (.stringRef "ConfigBeacon" 172 "locked, or no rollout") (by decide +kernel)) (hs (.exactly (.string "ConfigBeacon" 172) "java/lang/String") (by decide +kernel))
  exact ⟨z, ⟨⟨hZ, hT⟩, hU, hV, t1, t2, t3, t4, t5, t6, fun y hy => va_Nw.of rfl (hts _ (wd_de y hy)), fun x hx => va_Nw.of rfl (hts _ (wd_cx x hx))⟩, fun x hx y hy hne => va_Nc.of (hs _ (wd_nc x hx y hy hne))⟩
end WDK
