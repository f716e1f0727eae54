/-! the model's question: its stack of waiting settings does what ev does (no machine here) -/
def decE (f : Nat → Nat → Int32) (c : Nat) (w : Option Nat) (nL b : Nat) : Int32 := match decO f c b w nL with
  | none => 0
  | some j => shwF f c (16 * j + b) w
theorem decE_s {f : Nat → Nat → Int32} {c : Nat} {w : Option Nat} {nL b j : Nat} (h : decO f c b w nL = some j) : decE f c w nL b = shwF f c (16 * j + b) w := by
  unfold decE; rw [h]
theorem decE_0 {f : Nat → Nat → Int32} {c : Nat} {w : Option Nat} {nL b : Nat} : decE f c w nL b = 0 ↔ decO f c b w nL = none := by
  constructor
  · intro h
    cases hd : decO f c b w nL with
    | none => rfl
    | some j =>
      rw [decE_s hd] at h
      have := (decO_lt hd).2
      rw [h] at this
      exact absurd this (by decide)
  · intro h; unfold decE; rw [h]
abbrev agF (f g : Nat → Nat → Int32) : Prop := ∀ k, k ∈ [0, 1, 3, 4, 5, 7, 8, 9, 10, 11, 12] → f k = g k
theorem shwF_cong {f g : Nat → Nat → Int32} (h : agF f g) (c k : Nat) (w : Option Nat) : shwF f c k w = shwF g c k w := by
  unfold shwF rolF
  rw [h 7 (by decide), h 9 (by decide), h 10 (by decide), h 12 (by decide)]
theorem decO_cong {f g : Nat → Nat → Int32} (h : agF f g) (c b : Nat) (w : Option Nat) : ∀ n, decO f c b w n = decO g c b w n
  | 0 => rfl
  | n + 1 => by
    have ih := decO_cong h c b w n
    unfold decO
    rw [ih, shwF_cong h, forF_cong (h 0 (by decide)) (h 1 (by decide)) (h 4 (by decide)) (h 5 (by decide))]
    unfold decS
    rw [h 3 (by decide)]
theorem decE_cong {f g : Nat → Nat → Int32} (h : agF f g) (c : Nat) (w : Option Nat) (nL b : Nat) : decE f c w nL b = decE g c w nL b := by
  unfold decE
  rw [decO_cong h c b w nL]
  cases decO g c b w nL with
  | none => rfl
  | some j => exact shwF_cong h _ _ _
def rlE (σ : MS) (z : ES) : Prop := σ.1 22 = z.1 ∧ σ.1 21 = z.2.1 ∧ σ.1 20 = z.2.2.1 ∧ ∀ j, j < 16 → tbF z.2.2.1 j = true → σ.2.2 19 j = z.2.2.2 j
def prE (σ0 : MS) (t25 : Int32) (σ : MS) (z : ES) (dd : Nat) : Prop := PE σ σ0 ∧ σ.1 25 = t25 ∧ rlE σ z ∧ σ.1 23 = 0 ∧ σ.1 24 = -1 ∧ σ.1 18 = lvI dd ∧ cnU (σ.1 21) = dd
def okE (σ σ2 : MS) (dd b : Nat) (z : ES) : Prop := rlE σ2 z ∧ σ2.1 23 = 0 ∧ σ2.1 24 = -1 ∧ σ2.1 18 = lvI dd ∧ cnU (σ2.1 21) = dd ∧ (∀ j, j < dd → σ2.2.1 14 j = σ.2.1 14 j ∧ σ2.2.1 15 j = σ.2.1 15 j ∧ σ2.2.1 17 j = σ.2.1 17 j) ∧ (∀ j, j + 1 < dd → σ2.2.2 16 j = σ.2.2 16 j) ∧ (∀ q, dd = q + 1 → σ2.2.2 16 q = σ.2.2 16 q + z.2.2.2 b)
def noE (σ2 : MS) (x : Int32 × Int32) : Prop := σ2.1 23 = x.1 ∧ σ2.1 24 = x.2 ∧ ¬ x.1 = 0
def poE (σ0 : MS) (t25 : Int32) (σ σ2 : MS) (dd b : Nat) (E : ES × Option (Int32 × Int32)) : Prop := PE σ2 σ0 ∧ σ2.1 25 = t25 ∧ σ2.1 22 = E.1.1 ∧ (E.2 = none → okE σ σ2 dd b E.1) ∧ ∀ x, E.2 = some x → noE σ2 x
/-- the setting b waits at dd, its entry is e, k of its settings are done, acc is what they gave -/
def frE (σ0 : MS) (t25 : Int32) (σ τ : MS) (dd b : Nat) (e k : Int32) (acc : Int64) (z : ES) : Prop := PE τ σ0 ∧ τ.1 25 = t25 ∧ rlE τ z ∧ τ.1 23 = 0 ∧ τ.1 24 = -1 ∧ τ.1 18 = nI dd ∧ cnU (τ.1 21) = dd + 1 ∧ τ.2.1 14 dd = nI b ∧ τ.2.1 15 dd = e ∧ τ.2.1 17 dd = k ∧ τ.2.2 16 dd = acc ∧ (∀ j, j < dd → τ.2.1 14 j = σ.2.1 14 j ∧ τ.2.1 15 j = σ.2.1 15 j ∧ τ.2.1 17 j = σ.2.1 17 j) ∧ (∀ j, j < dd → τ.2.2 16 j = σ.2.2 16 j)
section ASKS
variable {G : MS → Prop} {nL c9 : Nat} {w : Option Nat} {σ0 : MS} {t25 : Int32}
theorem PE.sl {σ τ : MS} (h : PE σ τ) (k j : Nat) (x : Int64) : PE (sl σ k j x) τ := h
theorem PE.sa17 {σ τ : MS} (h : PE σ τ) (k j : Nat) (x : Int32) (hk : k ∉ [0, 1, 3, 4, 5, 7, 8, 9, 10, 11, 12]) : PE (sa σ k j x) τ :=
  ⟨h.1, fun i q => (show mup σ.2.1 k j x i = σ.2.1 i from mup_ne _ _ _ (fun z => hk (by rw [← z]; exact q))).trans (h.2 i q)⟩
/-- one setting of a template -/
theorem part_ind {g : Int32 → Int32} {k k1 : Int32} (d : Nat)
    (ih : ∀ (b : Nat) (z : ES) (dd : Nat) (σ : MS), b < 16 → prE σ0 t25 σ z dd → dd + d = 17 → (tbF z.2.2.1 b = true → 1 ≤ dd) → (∀ σ2, poE σ0 t25 σ σ2 dd b (ev (decE σ0.2.1 c9 w nL) d b z) → G σ2) → G (nedS σ nL c9 b w dd))
    (hT : ∀ (τ : MS) (dd : Nat) (e9 : Int32), τ.1 23 = 0 → τ.1 18 = nI dd → dd < 16 → cnU (τ.1 21) = dd + 1 → τ.2.1 17 dd = k → τ.2.1 15 dd = e9 → vS (g e9) → (g e9 = -1 → G (sa τ 17 dd k1)) → (∀ f, f < 16 → g e9 = nI f → G (nedS (sa τ 17 dd k1) nL c9 f w (dd + 1))) → G τ)
    {σ τ : MS} {dd b : Nat} {e : Int32} {acc : Int64} {z : ES} (hdd : dd + 1 + d = 17) (hd16 : dd < 16) (hv : vS (g e)) (F : frE σ0 t25 σ τ dd b e k acc z) (r : ES × Option (Int32 × Int32)) (hr : (if g e = -1 then (z, none) else ev (decE σ0.2.1 c9 w nL) d (ix (g e)) z) = r)
    (C1 : ∀ τ2, r.2 = none → frE σ0 t25 σ τ2 dd b e k1 (acc + partF r.1.2.2.2 (g e)) r.1 → G τ2)
    (C2 : ∀ x τ2, r.2 = some x → PE τ2 σ0 → τ2.1 25 = t25 → τ2.1 22 = r.1.1 → noE τ2 x → G τ2) : G τ := by
  obtain ⟨f1, f2, f3, f4, f5, f6, f7, f8, f9, f10, f11, f12, f13⟩ := F
  have f9' : (sa τ 17 dd k1).2.1 17 dd = k1 := by simp [sa, mup]
  have f12' : ∀ j, j < dd → (sa τ 17 dd k1).2.1 14 j = σ.2.1 14 j ∧ (sa τ 17 dd k1).2.1 15 j = σ.2.1 15 j ∧ (sa τ 17 dd k1).2.1 17 j = σ.2.1 17 j := fun j hj => by
    obtain ⟨a1, a2, a3⟩ := f12 j hj
    refine ⟨a1, a2, ?_⟩
    rw [← a3]
    simp [sa, mup, Nat.ne_of_lt hj]
  have p1 : PE (sa τ 17 dd k1) σ0 := f1.sa17 17 dd k1 (by decide)
  refine hT τ dd e f4 f6 hd16 f7 f10 f9 hv (fun hm => ?_) (fun f hf hm => ?_)
  · rw [if_pos hm] at hr
    subst hr
    refine C1 _ rfl ⟨p1, f2, f3, f4, f5, f6, f7, f8, f9, f9', ?_, f12', f13⟩
    show τ.2.2 16 dd = _
    rw [f11, partF, if_pos hm, Int64.add_zero]
  · have hne : ¬ g e = -1 := by rw [hm]; exact nI_m1 (by omega)
    rw [if_neg hne, hm, ix_nI (by omega)] at hr
    refine ih f z (dd + 1) (sa τ 17 dd k1) hf ⟨p1, f2, f3, f4, f5, by rw [lvI_q]; exact f6, f7⟩ hdd (fun _ => by omega) (fun σ2 P => ?_)
    rw [hr] at P
    obtain ⟨q1, q2, q3, q4, q5⟩ := P
    cases hE : r.2 with
    | some x => exact C2 x σ2 hE q1 q2 q3 (q5 x hE)
    | none =>
      obtain ⟨o1, o2, o3, o4, o5, o6, o7, o8⟩ := q4 hE
      obtain ⟨a1, a2, a3⟩ := o6 dd (by omega)
      refine C1 σ2 hE ⟨q1, q2, o1, o2, o3, by rw [o4, lvI_q], o5, a1.trans f8, a2.trans f9, a3.trans f9', ?_, fun j hj => ?_, fun j hj => ?_⟩
      · rw [o8 dd rfl, partF, if_neg hne, hm, ix_nI (by omega)]
        show τ.2.2 16 dd + _ = _
        rw [f11]
      · obtain ⟨b1, b2, b3⟩ := o6 j (by omega)
        obtain ⟨c1, c2, c3⟩ := f12' j hj
        exact ⟨b1.trans c1, b2.trans c2, b3.trans c3⟩
      · exact (o7 j (by omega)).trans (f13 j hj)
theorem asks_ind (hdec : ∀ b, b < 16 → decE σ0.2.1 c9 w nL b ≠ 0 → vS (dF (decE σ0.2.1 c9 w nL b)) ∧ vS (dS (decE σ0.2.1 c9 w nL b)))
    (hT0 : ∀ (τ : MS) (dd : Nat) (e9 : Int32), τ.1 23 = 0 → τ.1 18 = nI dd → dd < 16 → cnU (τ.1 21) = dd + 1 → τ.2.1 17 dd = 0 → τ.2.1 15 dd = e9 → vS (dF e9) → (dF e9 = -1 → G (sa τ 17 dd 1)) → (∀ f, f < 16 → dF e9 = nI f → G (nedS (sa τ 17 dd 1) nL c9 f w (dd + 1))) → G τ)
    (hT1 : ∀ (τ : MS) (dd : Nat) (e9 : Int32), τ.1 23 = 0 → τ.1 18 = nI dd → dd < 16 → cnU (τ.1 21) = dd + 1 → τ.2.1 17 dd = 1 → τ.2.1 15 dd = e9 → vS (dS e9) → (dS e9 = -1 → G (sa τ 17 dd 2)) → (∀ f, f < 16 → dS e9 = nI f → G (nedS (sa τ 17 dd 2) nL c9 f w (dd + 1))) → G τ)
    (hT2 : ∀ (τ : MS) (dd b : Nat), τ.1 23 = 0 → τ.1 18 = nI dd → dd < 16 → b < 16 → τ.2.1 17 dd = 2 → τ.2.1 14 dd = nI b → G (fndS (sa τ 17 dd 3) dd b) → G τ) :
    ∀ (d b : Nat) (z : ES) (dd : Nat) (σ : MS), b < 16 → prE σ0 t25 σ z dd → dd + d = 17 → (tbF z.2.2.1 b = true → 1 ≤ dd) → (∀ σ2, poE σ0 t25 σ σ2 dd b (ev (decE σ0.2.1 c9 w nL) d b z) → G σ2) → G (nedS σ nL c9 b w dd) := by
  intro d
  induction d with
  | zero =>
    intro b z dd σ hb hp hd
    have h1 : cnU (σ.1 21) ≤ 16 := cntF_le _ _
    rw [hp.2.2.2.2.2.2] at h1
    omega
  | succ d ih =>
    intro b z dd σ hb hp hd hk K
    obtain ⟨p1, p2, ⟨r1, r2, r3, r4⟩, p3, p4, p5, p6⟩ := hp
    have eO : decO σ.2.1 c9 b w nL = decO σ0.2.1 c9 b w nL := decO_cong p1.2 _ _ _ _
    have e22 : σ.1 22 ||| bitI b = z.1 ||| bitI b := by rw [r1]
    by_cases h1 : tbF z.2.2.1 b = true
    · have eE : ev (decE σ0.2.1 c9 w nL) (d + 1) b z = ((z.1 ||| bitI b, z.2), none) := by rw [ev, if_pos h1]
      rw [eE] at K
      have hd1 := hk h1
      rw [nedS_k (by rw [r3]; exact h1)]
      refine K _ ⟨(p1.sg 22 _ (by decide)).sl 16 _ _, p2, e22, fun _ => ⟨⟨e22, r2, r3, r4⟩, p3, p4, p5, p6, fun j _ => ⟨rfl, rfl, rfl⟩, fun j hj => ?_, fun q hq => ?_⟩, fun x hx => (by cases hx)⟩
      · show mup σ.2.2 16 (dd - 1) _ 16 j = σ.2.2 16 j
        simp only [mup, if_true]
        rw [if_neg (by omega)]
      · show mup σ.2.2 16 (dd - 1) _ 16 q = σ.2.2 16 q + z.2.2.2 b
        subst hq
        simp only [mup, if_true, Nat.add_sub_cancel]
        rw [r4 b hb h1]
    · have h1f : tbF (σ.1 20) b = false := by rw [r3]; simpa using h1
      by_cases h2 : decE σ0.2.1 c9 w nL b = 0
      · have eE : ev (decE σ0.2.1 c9 w nL) (d + 1) b z = ((z.1 ||| bitI b, z.2), some (1, nI b)) := by rw [ev, if_neg h1, if_pos h2]
        rw [eE] at K
        rw [nedS_m h1f (eO.trans (decE_0.mp h2))]
        exact K _ ⟨((p1.sg 22 _ (by decide)).sg 23 _ (by decide)).sg 24 _ (by decide), p2, e22, fun hx => (by cases hx), fun x hx => (by cases hx; exact ⟨rfl, rfl, (show ¬ (1:Int32) = 0 by decide)⟩)⟩
      · obtain ⟨j, hj⟩ : ∃ j, decO σ0.2.1 c9 b w nL = some j := by
          cases hq : decO σ0.2.1 c9 b w nL with
          | none => exact absurd (decE_0.mpr hq) h2
          | some j => exact ⟨j, rfl⟩
        by_cases h3 : tbF z.2.1 b = true
        · have eE : ev (decE σ0.2.1 c9 w nL) (d + 1) b z = ((z.1 ||| bitI b, z.2), some (2, nI b)) := by rw [ev, if_neg h1, if_neg h2, if_pos h3]
          rw [eE] at K
          rw [nedS_c h1f (eO.trans hj) (by rw [r2]; exact h3)]
          exact K _ ⟨((p1.sg 22 _ (by decide)).sg 23 _ (by decide)).sg 24 _ (by decide), p2, e22, fun hx => (by cases hx), fun x hx => (by cases hx; exact ⟨rfl, rfl, (show ¬ (2:Int32) = 0 by decide)⟩)⟩
        · have h3f : tbF (σ.1 21) b = false := by rw [r2]; simpa using h3
          obtain ⟨v1, v2⟩ := hdec b hb h2
          have hd16 : dd < 16 := by
            have := cnU_room hb h3f
            omega
          rw [nedS_p h1f (eO.trans hj) h3f, shwF_cong p1.2, ← decE_s hj]
          obtain ⟨e, he⟩ : ∃ e, e = decE σ0.2.1 c9 w nL b := ⟨_, rfl⟩
          rw [← he] at v1 v2 ⊢
          have eE : ev (decE σ0.2.1 c9 w nL) (d + 1) b z = (let r1 := if dF e = -1 then ((z.1 ||| bitI b, z.2.1 ||| bitI b, z.2.2), none) else ev (decE σ0.2.1 c9 w nL) d (ix (dF e)) (z.1 ||| bitI b, z.2.1 ||| bitI b, z.2.2)
            match r1.2 with
            | some x => (r1.1, some x)
            | none =>
              let r2 := if dS e = -1 then (r1.1, none) else ev (decE σ0.2.1 c9 w nL) d (ix (dS e)) r1.1
              match r2.2 with
              | some x => (r2.1, some x)
              | none => (finE r2.1 b e, none)) := by rw [ev, if_neg h1, if_neg h2, if_neg h3, he]; rfl
          obtain ⟨R1, hR1⟩ : ∃ R, (if dF e = -1 then (((z.1 ||| bitI b, z.2.1 ||| bitI b, z.2.2) : ES), (none : Option (Int32 × Int32))) else ev (decE σ0.2.1 c9 w nL) d (ix (dF e)) (z.1 ||| bitI b, z.2.1 ||| bitI b, z.2.2)) = R := ⟨_, rfl⟩
          obtain ⟨R2, hR2⟩ : ∃ R, (if dS e = -1 then (R1.1, (none : Option (Int32 × Int32))) else ev (decE σ0.2.1 c9 w nL) d (ix (dS e)) R1.1) = R := ⟨_, rfl⟩
          dsimp only at eE
          rw [hR1, hR2] at eE
          have F0 : frE σ0 t25 σ (pushS σ dd b e) dd b e 0 (dB e).toInt64 (z.1 ||| bitI b, z.2.1 ||| bitI b, z.2.2) := by
            refine ⟨?_, p2, ⟨e22, by show σ.1 21 ||| bitI b = _; rw [r2], r3, r4⟩, p3, p4, rfl, ?_, ?_, ?_, ?_, ?_, fun j hj => ⟨?_, ?_, ?_⟩, fun j hj => ?_⟩
            · exact ((((((p1.sg 22 _ (by decide)).sg 18 _ (by decide)).sg 21 _ (by decide)).sa17 14 _ _ (by decide)).sa17 15 _ _ (by decide)).sl 16 _ _).sa17 17 _ _ (by decide)
            · show cnU (σ.1 21 ||| bitI b) = dd + 1
              rw [cnU_add hb h3f, p6]
            · simp [pushS, sa, sl, sg, mup]
            · simp [pushS, sa, sl, sg, mup]
            · simp [pushS, sa, sl, sg, mup]
            · simp [pushS, sa, sl, sg, mup]
            · simp [pushS, sa, sl, sg, mup, Nat.ne_of_lt hj]
            · simp [pushS, sa, sl, sg, mup, Nat.ne_of_lt hj]
            · simp [pushS, sa, sl, sg, mup, Nat.ne_of_lt hj]
            · simp [pushS, sa, sl, sg, mup, Nat.ne_of_lt hj]
          refine part_ind d ih hT0 (by omega) hd16 v1 F0 R1 hR1 (fun τ1 hn1 F1 => ?_) (fun x τ1 hx a1 a2 a3 a4 => ?_)
          · rw [hn1] at eE
            dsimp only at eE
            refine part_ind d ih hT1 (by omega) hd16 v2 F1 R2 hR2 (fun τ2 hn2 F2 => ?_) (fun x τ2 hx a1 a2 a3 a4 => ?_)
            · rw [hn2] at eE
              dsimp only at eE
              rw [eE] at K
              obtain ⟨f1, f2, ⟨s1, s2, s3, s4⟩, f4, f5, f6, f7, f8, f9, f10, f11, f12, f13⟩ := F2
              -- the first setting's value is still what it was
              have keep : partF R1.1.2.2.2 (dF e) = partF R2.1.2.2.2 (dF e) := by
                unfold partF
                by_cases hm : dF e = -1
                · rw [if_pos hm, if_pos hm]
                · rw [if_neg hm, if_neg hm]
                  obtain ⟨j1, hj1, ej1⟩ := okS_of (v1.resolve_left hm)
                  rw [if_neg hm, ej1, ix_nI (by omega)] at hR1
                  rw [ej1, ix_nI (by omega)]
                  have kn1 := ((ev_keep _ hdec d j1 (z.1 ||| bitI b, z.2.1 ||| bitI b, z.2.2) hj1).2 (by rw [hR1]; exact hn1)).1
                  rw [hR1] at kn1
                  by_cases hm2 : dS e = -1
                  · rw [if_pos hm2] at hR2
                    rw [← hR2]
                  · obtain ⟨j2, hj2, ej2⟩ := okS_of (v2.resolve_left hm2)
                    rw [if_neg hm2, ej2, ix_nI (by omega)] at hR2
                    have k2 := ((ev_keep _ hdec d j2 R1.1 hj2).1 j1 hj1 kn1).2
                    rw [hR2] at k2
                    exact k2.symm
              have hkb : tbF R2.1.2.1 b = true := by
                have u1 : R1.1.2.1 = z.2.1 ||| bitI b := by
                  by_cases hm : dF e = -1
                  · rw [if_pos hm] at hR1; rw [← hR1]
                  · obtain ⟨j1, hj1, ej1⟩ := okS_of (v1.resolve_left hm)
                    rw [if_neg hm, ej1, ix_nI (by omega)] at hR1
                    have := ((ev_keep _ hdec d j1 (z.1 ||| bitI b, z.2.1 ||| bitI b, z.2.2) hj1).2 (by rw [hR1]; exact hn1)).2
                    rw [hR1] at this
                    exact this
                have u2 : R2.1.2.1 = R1.1.2.1 := by
                  by_cases hm : dS e = -1
                  · rw [if_pos hm] at hR2; rw [← hR2]
                  · obtain ⟨j2, hj2, ej2⟩ := okS_of (v2.resolve_left hm)
                    rw [if_neg hm, ej2, ix_nI (by omega)] at hR2
                    have := ((ev_keep _ hdec d j2 R1.1 hj2).2 (by rw [hR2]; exact hn2)).2
                    rw [hR2] at this
                    exact this
                rw [u2, u1, tb_or _ hb hb]; simp
              refine hT2 τ2 dd b f4 f6 hd16 hb f10 f8 (K _ ?_)
              have hval : τ2.2.2 16 dd = (dB e).toInt64 + partF R2.1.2.2.2 (dF e) + partF R2.1.2.2.2 (dS e) := by rw [f11, keep]
              have hP : PE (fndS (sa τ2 17 dd 3) dd b) σ0 := by
                have hQ : PE (fndT (sa τ2 17 dd 3) dd b) σ0 := ((((f1.sa17 17 dd 3 (by decide)).sg 20 _ (by decide)).sg 21 _ (by decide)).sl 19 _ _).sg 18 _ (by decide)
                cases dd with
                | zero => exact hQ
                | succ q => exact hQ.sl 16 _ _
              have hs : ∀ k, k ∈ [20, 21, 22, 23, 24, 25, 18] → (fndS (sa τ2 17 dd 3) dd b).1 k = (fndT (sa τ2 17 dd 3) dd b).1 k := by
                intro k _; cases dd <;> rfl
              have ha : ∀ k j, (fndS (sa τ2 17 dd 3) dd b).2.1 k j = mup τ2.2.1 17 dd 3 k j := by
                intro k j; cases dd <;> rfl
              have h19 : ∀ j, (fndS (sa τ2 17 dd 3) dd b).2.2 19 j = updL (τ2.2.2 19) b (τ2.2.2 16 dd) j := by
                intro j; cases dd <;> simp [fndS, fndT, sl, sg, sa, mup, updL]
              refine ⟨hP, by rw [hs 25 (by decide)]; exact f2, by rw [hs 22 (by decide)]; exact s1, fun _ => ⟨⟨by rw [hs 22 (by decide)]; exact s1, by rw [hs 21 (by decide)]; show τ2.1 21 &&& _ = _; rw [s2]; rfl, by rw [hs 20 (by decide)]; show τ2.1 20 ||| _ = _; rw [s3]; rfl, fun j hj ht => ?_⟩, by rw [hs 23 (by decide)]; exact f4, by rw [hs 24 (by decide)]; exact f5, by rw [hs 18 (by decide)]; rfl, ?_, fun j hj => ?_, fun j hj => ?_, fun q hq => ?_⟩, fun x hx => (by cases hx)⟩
              · rw [h19]
                show _ = updL R2.1.2.2.2 b _ j
                by_cases q : j = b
                · subst q; rw [updL_s, updL_s, hval]
                · rw [updL_n q, updL_n q]
                  refine s4 j hj ?_
                  have ht2 : tbF (R2.1.2.2.1 ||| bitI b) j = true := ht
                  rw [tb_or _ hb hj] at ht2
                  simpa [q] using ht2
              · rw [hs 21 (by decide)]
                show cnU (τ2.1 21 &&& (bitI b ^^^ (-1))) = dd
                have := cnU_sub hb (x := τ2.1 21) (by rw [s2]; exact hkb)
                omega
              · obtain ⟨c1, c2, c3⟩ := f12 j hj
                rw [ha, ha, ha]
                refine ⟨c1, c2, ?_⟩
                rw [← c3]
                simp [mup, Nat.ne_of_lt hj]
              · rw [← f13 j (by omega)]
                cases dd with
                | zero => omega
                | succ q =>
                  show mup (mup τ2.2.2 19 b (τ2.2.2 16 (q + 1))) 16 q (τ2.2.2 16 q + τ2.2.2 16 (q + 1)) 16 j = τ2.2.2 16 j
                  simp only [mup, if_true]
                  rw [if_neg (by omega)]
                  simp
              · subst hq
                show mup (mup τ2.2.2 19 b (τ2.2.2 16 (q + 1))) 16 q (τ2.2.2 16 q + τ2.2.2 16 (q + 1)) 16 q = _
                simp only [mup, if_true]
                rw [hval, f13 q (by omega)]
                show _ = _ + updL R2.1.2.2.2 b _ b
                rw [updL_s]
            · rw [hx] at eE
              rw [eE] at K
              exact K τ2 ⟨a1, a2, a3, fun h => (by cases h), fun y hy => (by cases hy; exact a4)⟩
          · rw [hx] at eE
            rw [eE] at K
            exact K τ1 ⟨a1, a2, a3, fun h => (by cases h), fun y hy => (by cases hy; exact a4)⟩
end ASKS
