/-! one call of the law: the numbers, what the class keeps true -/
theorem CS.pe {D : va_G} {cA : Nat → ClassId} {A : Nat → Prop} {z o : Nat} {f g : Nat → Nat → Int32} {nC nL nV : Nat} {H : Heap} (h : CS D cA A z o f nC nL nV H) (e : ∀ k, k ∈ [0, 1, 3, 4, 5, 7, 8, 9, 10, 11, 12] → g k = f k) : CS D cA A z o g nC nL nV H := by
  obtain ⟨lab, nm, rf, ⟨hT, hLC, hLL, hLV, hC, hL, hHo, hRo, hCh, hRl, hEn⟩, hl, hq, hz, ho⟩ := h
  refine ⟨lab, nm, rf, ⟨hT, hLC, hLL, hLV, fun j hj => ?_, fun j hj => ?_, fun j hj => ?_, hRo, fun j hj => ?_, fun j b hj hb => ?_, fun v hv => ?_⟩, hl, hq, hz, ho⟩
  · rw [e 0 (by decide), e 1 (by decide)]; exact hC j hj
  · rw [e 4 (by decide), e 5 (by decide), e 3 (by decide)]; exact hL j hj
  · rw [hoF_cong (e 11 (by decide))]; exact hHo j hj
  · rw [e 8 (by decide)]; exact hCh j hj
  · rw [e 10 (by decide), e 9 (by decide)]; exact hRl j b hj hb
  · rw [e 12 (by decide)]; exact hEn v hv
/-- the class's cells may lie in less -/
theorem CS.shrink {D : va_G} {cA : Nat → ClassId} {A A' : Nat → Prop} {z o : Nat} {f : Nat → Nat → Int32} {nC nL nV : Nat} {H : Heap} (h : CS D cA A z o f nC nL nV H) (hA : ∀ q, q < H.size → A q → A' q) : CS D cA A' z o f nC nL nV H := by
  obtain ⟨lab, nm, rf, h1, h2, h3, h4, h5⟩ := h
  have hs : ∀ x, x < H.size → (fun q => if q < H.size then lab q else 0) x = lab x := fun x hx => if_pos hx
  have h6 := CRv.keptX (lab' := fun q => if q < H.size then lab q else 0) h1 h2 h3 (fun _ => False) id (fun _ _ _ _ => rfl) hs
  have hx0 : ∀ x, (if x < H.size then lab x else 0) ≠ 0 → x < H.size ∧ lab x ≠ 0 := fun x hx => by
    by_cases q : x < H.size
    · rw [if_pos q] at hx
      exact ⟨q, hx⟩
    · rw [if_neg q] at hx
      exact absurd rfl hx
  have h7 : CRl A (fun q => if q < H.size then lab q else 0) nm rf nC nL := h2.relab h1 h3 (fun x hx => h2.1 x (hx0 x hx).2) hs
  exact ⟨_, nm, rf, h6.all.1, ⟨fun x hx => hA x (hx0 x hx).1 (h2.1 x (hx0 x hx).2), h7.2⟩, h6.all.2, h4, h5⟩
theorem gdE_enc {b f s : Int32} (h : gdT b f s) : gdE (enc b f s) := Or.inr ⟨b, f, s, h, rfl⟩
theorem cl_lt {nL : Nat} {p1 p2 : Int32} (hL : nL ≤ 8) (h1 : okN nL p1 = true) (h2 : okS p2 = true) : cl p1 p2 < 16 * nL := by
  obtain ⟨i, hi, rfl⟩ := okN_of (by omega) h1
  obtain ⟨j, hj, rfl⟩ := okS_of h2
  rw [cl_nI (by omega) hj]
  omega
theorem CRi.tuGe {f : Nat → Nat → Int32} {nC nL nV : Nat} (h : CRi f nC nL nV) (hv : nV < 512) {x : Nat → Int32} (hx : ∀ k, k < 128 → gdE (x k)) (hx0 : ∀ k, 16 * nL ≤ k → k < 128 → x k = 0) : CRi (tuG f x nV (16 * nL)) nC nL (nV + 1) := by
  have G : ∀ k, k ≠ 7 → k ≠ 12 → tuG f x nV (16 * nL) k = tuF f x nV (16 * nL) k := fun k k1 k2 => by
    funext a
    unfold tuG
    rw [if_neg (fun q => k1 q.1), if_neg (fun q => k2 q.1)]
  have G7 : ∀ a, tuG f x nV (16 * nL) 7 a = if a < 128 then x a else f 7 a := fun a => by
    unfold tuG
    by_cases ha : a < 128
    · rw [if_pos ⟨rfl, ha⟩, if_pos ha]
    · rw [if_neg (fun q => ha q.2), if_neg (fun q => by omega), if_neg ha, tu_ne (by decide)]
  have G12 : ∀ a, tuG f x nV (16 * nL) 12 a = if 128 * (nV + 1) ≤ a ∧ a < 128 * (nV + 1) + 128 then x (a - 128 * (nV + 1)) else f 12 a := fun a => by
    unfold tuG
    rw [if_neg (fun q => by omega)]
    by_cases ha : 128 * (nV + 1) ≤ a ∧ a < 128 * (nV + 1) + 128
    · rw [if_pos ⟨rfl, ha⟩, if_pos ha]
    · rw [if_neg (fun q => ha q.2), if_neg ha, tu_ne (by decide)]
  obtain ⟨b1, b2, b3, h4, h5, h6, h7, h8, h9, h10, h11, h12⟩ := h
  refine ⟨b1, b2, by omega, ?_, ?_, ?_, ?_, ?_, ?_, ?_, ?_, ?_⟩
  · rw [G 4 (by decide) (by decide), tu_ne (by decide)]; exact h4
  · intro k hk j
    rcases hk with rfl | rfl | rfl
    · rw [G7]; split
      · exact hx _ (by assumption)
      · exact h5 7 (by omega) j
    · rw [G 9 (by decide) (by decide), tu_ne (by decide)]; exact h5 9 (by omega) j
    · rw [G12]; split
      · exact hx _ (by omega)
      · exact h5 12 (by omega) j
  · intro k hk
    rw [G7, G12, if_pos hk, if_pos ⟨by omega, by omega⟩, Nat.add_sub_cancel_left]
  · intro v k hv2 h1 h2
    rw [G12]
    by_cases e : v = nV + 1
    · subst e
      rw [if_pos ⟨by omega, by omega⟩, Nat.add_sub_cancel_left]
      exact hx0 k h1 h2
    · rw [if_neg (by omega)]
      exact h7 v k (by omega) h1 h2
  · rw [G 11 (by decide) (by decide), tu_ne (by decide)]; exact h8
  · rw [G 11 (by decide) (by decide), tu_ne (by decide)]; exact h9
  · rw [G 11 (by decide) (by decide), tu_ne (by decide)]; exact h10
  · intro k h1 h2
    rw [G 8 (by decide) (by decide)]
    unfold tuF
    rw [if_neg (by omega)]
    exact h11 k h1 h2
  · rw [G 10 (by decide) (by decide), tu_ne (by decide)]; exact h12
theorem CRi.z7 {f : Nat → Nat → Int32} {nC nL nV : Nat} (h : CRi f nC nL nV) {k : Nat} (h1 : 16 * nL ≤ k) (h2 : k < 128) : f 7 k = 0 := by
  obtain ⟨-, -, -, -, -, h6, h7, -⟩ := h
  rw [h6 k h2]
  exact h7 nV k (Nat.le_refl _) h1 h2
theorem CRi.put {f : Nat → Nat → Int32} {nC nL nV k : Nat} {e : Int32} (h : CRi f nC nL nV) (hv : nV < 512) (hk : k < 16 * nL) (he : gdE e) : CRi (putS (mS f) nV k e).2.1 nC nL (putV (mS f) nV k e) := by
  have b2 := h.2.1
  by_cases q : f 7 k = e
  · rw [show putV (mS f) nV k e = nV from if_pos q, show putS (mS f) nV k e = mS f from if_pos q]
    exact h
  · rw [show putV (mS f) nV k e = nV + 1 from if_neg q, ← ex_put (n := 16 * nL) hk (by omega) q]
    refine h.tuGe hv (fun a _ => ?_) (fun a h1 h2 => ?_)
    · unfold exF
      split
      · exact he
      · exact h.2.2.2.2.1 7 (by omega) a
    · unfold exF
      rw [if_neg (by omega)]
      exact h.z7 h1 h2
theorem CRi.wr {f : Nat → Nat → Int32} {nC nL nV : Nat} {p1 p2 o e : Int32} {are u : Bool} (h : CRi f nC nL nV) (hv : nV < 512) (hk : wrF (mS f) nL p1 p2 are o u = 0) (he : are = true → gdE e) : CRi (putS (mS f) nV (cl p1 p2) e).2.1 nC nL (putV (mS f) nV (cl p1 p2) e) := by
  obtain ⟨h1, h2, h3, -⟩ := wrF_0 hk
  exact h.put hv (cl_lt h.2.1 h1 h2) (he h3)
theorem kRm_0 {σ : MS} {nL : Nat} {p1 p2 o : Int32} (h : kRm σ nL p1 p2 o = 0) : wrF σ nL p1 p2 true o false = 0 := by
  unfold kRm at h
  by_cases q : wrF σ nL p1 p2 true o false = 0
  · exact q
  · rw [if_neg q] at h; exact h
theorem kAd_0 {σ : MS} {nL : Nat} {p1 p2 s o : Int32} (h : kAd σ nL p1 p2 s o = 0) : wrF σ nL p1 p2 (inB s 1 100) o true = 0 := by
  unfold kAd at h
  by_cases q : wrF σ nL p1 p2 (inB s 1 100) o true = 0
  · exact q
  · rw [if_neg q] at h; exact h
theorem CRi.ad {f : Nat → Nat → Int32} {nC nL nV : Nat} {p1 p2 s o : Int32} (h : CRi f nC nL nV) (hv : nV < 512) (hk : kAd (mS f) nL p1 p2 s o = 0) : CRi (adS (mS f) nV (cl p1 p2) s).2.1 nC nL (adN f nV (cl p1 p2) s) := by
  obtain ⟨h1, h2, h3, -⟩ := wrF_0 (kAd_0 hk)
  have hc := cl_lt h.2.1 h1 h2
  by_cases q : s < 100
  · rw [show adN f nV (cl p1 p2) s = nV from if_pos q, show adS (mS f) nV (cl p1 p2) s = sa (mS f) 10 (cl p1 p2) s from if_pos q]
    exact h.ab _ _ hc
  · have h9 := (h.ab (cl p1 p2) (-1) hc).put hv hc (e := f 9 (cl p1 p2)) (h.2.2.2.2.1 9 (by omega) _)
    have e1 : adN f nV (cl p1 p2) s = putV (mS (mup f 10 (cl p1 p2) (-1))) nV (cl p1 p2) (f 9 (cl p1 p2)) := by
      unfold adN putV
      rw [if_neg q]
      show (if f 7 (cl p1 p2) = _ then _ else _) = (if mup f 10 (cl p1 p2) (-1) 7 (cl p1 p2) = _ then _ else _)
      rw [mupN (by decide)]
    rw [e1, show adS (mS f) nV (cl p1 p2) s = putS (mS (mup f 10 (cl p1 p2) (-1))) nV (cl p1 p2) (f 9 (cl p1 p2)) from if_neg q]
    exact h9
theorem CRi.ro {f : Nat → Nat → Int32} {nC nL nV : Nat} {p1 o : Int32} (h : CRi f nC nL nV) (hv : nV < 512) (hk : kRo (mS f) nV p1 o = 0) : CRi (if cntF (difF f (ix p1)) 128 = 0 then f else (rollS (mS f) nV (ix p1)).2.1) nC nL (if cntF (difF f (ix p1)) 128 = 0 then nV else nV + 1) := by
  have h1 : okN (nV + 1) p1 = true := by
    cases q : okN (nV + 1) p1 with
    | true => rfl
    | false => unfold kRo at hk; rw [q, if_neg Bool.false_ne_true] at hk; exact absurd hk (by decide)
  obtain ⟨i, hi, rfl⟩ := okN_of (by omega) h1
  rw [ix_nI (by omega)]
  by_cases q : cntF (difF f i) 128 = 0
  · rw [if_pos q, if_pos q]; exact h
  · rw [if_neg q, if_neg q, ← roll_eq h (show i ≤ nV by omega)]
    refine h.tuGe hv (fun a _ => h.2.2.2.2.1 12 (by omega) _) (fun a h1 h2 => ?_)
    exact h.2.2.2.2.2.2.1 i a (by omega) h1 h2
theorem CRi.cl {f : Nat → Nat → Int32} {nC nL nV : Nat} {a b : Int32} (h : CRi f nC nL nV) (hk : kCl nC a b = 0) : CRi (clS (mS f) nC a b).2.1 (nC + 1) nL nV := by
  have h12 : nC < 12 := by
    have b1 := h.1
    by_cases q : nC = 12
    · exfalso
      unfold kCl at hk
      split at hk
      · rw [if_pos (by rw [q]; rfl)] at hk; exact absurd hk (by decide)
      · exact absurd hk (by decide)
    · omega
  have h9 := h.mv nC a b
  exact ⟨by omega, h9.2⟩
theorem CRi.ly {f : Nat → Nat → Int32} {nC nL nV : Nat} {p q w : Int32} (h : CRi f nC nL nV) (hk : kLy nL p q w = 0) : CRi (lyS (mS f) nL p q w).2.1 nC (nL + 1) nV := by
  have hin : (inB p 0 99 && inB q 0 3 && inB w 0 (mostF q)) = true := by
    cases e : (inB p 0 99 && inB q 0 3 && inB w 0 (mostF q)) with
    | true => rfl
    | false => unfold kLy at hk; rw [e, if_neg Bool.false_ne_true] at hk; exact absurd hk (by decide)
  have h8 : nL < 8 := by
    have b2 := h.2.1
    by_cases e : nL = 8
    · exfalso
      unfold kLy at hk
      rw [if_pos hin, if_pos (by rw [e]; rfl)] at hk
      exact absurd hk (by decide)
    · omega
  simp only [Bool.and_eq_true] at hin
  have hq : q = 0 ∨ q = 1 ∨ q = 2 ∨ q = 3 := by
    obtain ⟨i1, i2⟩ := inB_iff.mp hin.1.2
    have e0 : (0 : Int32).toInt = 0 := by decide
    have e3 : (3 : Int32).toInt = 3 := by decide
    have e1' : (1 : Int32).toInt = 1 := by decide
    have e2' : (2 : Int32).toInt = 2 := by decide
    rw [Int32.le_iff_toInt_le] at i1 i2
    rw [← Int32.toInt_inj, ← Int32.toInt_inj, ← Int32.toInt_inj, ← Int32.toInt_inj]
    omega
  have E : ∀ k, k ≠ 3 → k ≠ 4 → k ≠ 5 → (lyS (mS f) nL p q w).2.1 k = f k := fun k k0 k1 k2 => by
    show mup (mup (mup f 3 nL p) 4 nL q) 5 nL w k = f k
    rw [mupN k2, mupN k1, mupN k0]
  obtain ⟨b1, b2, b3, h4, h5, h6, h7, h8', h9, h10, h11, h12⟩ := h
  refine ⟨b1, by omega, b3, ?_, ?_, ?_, ?_, ?_, ?_, ?_, ?_, ?_⟩
  · intro j hj
    show mup (mup (mup f 3 nL p) 4 nL q) 5 nL w 4 j = 0 ∨ mup (mup (mup f 3 nL p) 4 nL q) 5 nL w 4 j = 1 ∨ mup (mup (mup f 3 nL p) 4 nL q) 5 nL w 4 j = 2 ∨ mup (mup (mup f 3 nL p) 4 nL q) 5 nL w 4 j = 3
    rw [mupN (by decide)]
    by_cases e : j = nL
    · rw [e, mupA]; exact hq
    · rw [mupU e, mupN (by decide)]; exact h4 j (by omega)
  · intro k2 hk2 j
    rcases hk2 with rfl | rfl | rfl
    · rw [E 7 (by decide) (by decide) (by decide)]; exact h5 7 (by omega) j
    · rw [E 9 (by decide) (by decide) (by decide)]; exact h5 9 (by omega) j
    · rw [E 12 (by decide) (by decide) (by decide)]; exact h5 12 (by omega) j
  · rw [E 7 (by decide) (by decide) (by decide), E 12 (by decide) (by decide) (by decide)]; exact h6
  · rw [E 12 (by decide) (by decide) (by decide)]; exact fun v k hv h1 h2 => h7 v k hv (by omega) h2
  · rw [E 11 (by decide) (by decide) (by decide)]; exact h8'
  · rw [E 11 (by decide) (by decide) (by decide)]; exact fun k h1 h2 => h9 k (by omega) h2
  · rw [E 11 (by decide) (by decide) (by decide)]; exact fun k h1 h2 => h10 k (by omega) h2
  · rw [E 8 (by decide) (by decide) (by decide)]; exact fun k h1 h2 => h11 k (by omega) h2
  · rw [E 10 (by decide) (by decide) (by decide)]; exact fun k h1 h2 => h12 k (by omega) h2
theorem CRi.lo {f : Nat → Nat → Int32} {nC nL nV : Nat} {p1 p2 x : Int32} (h : CRi f nC nL nV) (h1 : okN nL p1 = true) (h2 : p2 = -1 ∨ okS p2 = true) (hx : 0 ≤ x) : CRi (sa (mS f) 11 (lkA (ix p1) p2) x).2.1 nC nL nV := by
  have b2 := h.2.1
  obtain ⟨i, hi, rfl⟩ := okN_of (by omega) h1
  show CRi (mup f 11 (lkA (ix (nI i)) p2) x) nC nL nV
  rcases h2 with rfl | h2
  · rw [lk_A (by omega)]; exact h.lk hi hx
  · obtain ⟨j, hj, rfl⟩ := okS_of h2
    rw [lk_B (by omega) hj]; exact h.lk hi hx
theorem kLo_0 {σ : MS} {nL : Nat} {p1 p2 o : Int32} (h : kLo σ nL p1 p2 o = 0) : kLk nL p1 p2 o = 0 := by
  unfold kLo at h
  by_cases q : kLk nL p1 p2 o = 0
  · exact q
  · rw [if_neg q] at h; exact h
theorem kUn_0 {σ : MS} {nL : Nat} {p1 p2 o : Int32} (h : kUn σ nL p1 p2 o = 0) : kLk nL p1 p2 o = 0 := by
  unfold kUn at h
  by_cases q : kLk nL p1 p2 o = 0
  · exact q
  · rw [if_neg q] at h; exact h
theorem CRi.start : CRi (inS 128).2.1 0 0 0 := by
  have e : ∀ k j, k ≠ 10 → (inS 128).2.1 k j = 0 := fun k j hk => if_neg (fun q => hk q.1)
  refine ⟨by omega, by omega, by omega, fun j hj => absurd hj (Nat.not_lt_zero _), fun k hk j => Or.inl (e k j (by omega)), fun k hk => by rw [e 7 k (by decide), e 12 _ (by decide)], fun v k hv h1 h2 => e 12 _ (by decide), fun k => by rw [e 11 k (by decide)]; decide, fun k h1 h2 => e 11 k (by decide), fun j h1 h2 => e 11 _ (by decide), fun k h1 h2 => e 8 k (by decide), fun k h1 h2 => ?_⟩
  show (if 10 = 10 ∧ k < 128 then (-1 : Int32) else 0) = -1
  exact if_pos ⟨rfl, h2⟩
/-! the state's numbers -/
section MNS
variable {σ : MS} {nC nL nV : Nat}
theorem mN_cl (h : mN σ nC nL nV) (a b : Int32) : mN (clS σ nC a b) (nC + 1) nL nV := ⟨rfl, h.2.1, h.2.2⟩
theorem mN_ly (h : mN σ nC nL nV) (p q w : Int32) : mN (lyS σ nL p q w) nC (nL + 1) nV := ⟨h.1, rfl, h.2.2⟩
theorem mN_put (h : mN σ nC nL nV) (k : Nat) (e : Int32) : mN (putS σ nV k e) nC nL (putV σ nV k e) := by
  refine ⟨(putS_sc σ nV k e 2 (by decide)).trans h.1, (putS_sc σ nV k e 6 (by decide)).trans h.2.1, ?_⟩
  unfold putS putV
  split
  · exact h.2.2
  · rfl
theorem mN_ad (h : mN σ nC nL nV) (k : Nat) (s : Int32) : mN (adS σ nV k s) nC nL (adN σ.2.1 nV k s) := by
  unfold adS adN
  split
  · exact h
  · have h2 : mN (sa σ 10 k (-1)) nC nL nV := h
    have h3 := mN_put h2 k (σ.2.1 9 k)
    have e : putV (sa σ 10 k (-1)) nV k (σ.2.1 9 k) = putV (mS σ.2.1) nV k (σ.2.1 9 k) := by
      unfold putV
      show (if mup σ.2.1 10 k (-1) 7 k = _ then _ else _) = _
      rw [mupN (by decide)]
    rw [e] at h3
    exact h3
theorem mN_ro (h : mN σ nC nL nV) (to : Nat) (c : Nat) : mN (if c = 0 then σ else rollS σ nV to) nC nL (if c = 0 then nV else nV + 1) := by
  split
  · exact h
  · exact ⟨h.1, h.2.1, rfl⟩
theorem mN_pe {τ : MS} (h : mN τ nC nL nV) (e : PE σ τ) : mN σ nC nL nV := ⟨(e.1 2 (by decide)).trans h.1, (e.1 6 (by decide)).trans h.2.1, (e.1 13 (by decide)).trans h.2.2⟩
end MNS
theorem put_ms (σ : MS) (v k : Nat) (e : Int32) : (putS σ v k e).2.1 = (putS (mS σ.2.1) v k e).2.1 := by
  unfold putS
  by_cases h : σ.2.1 7 k = e
  · rw [if_pos h, if_pos (show (mS σ.2.1).2.1 7 k = e from h)]
  · rw [if_neg h, if_neg (show ¬ (mS σ.2.1).2.1 7 k = e from h)]; rfl
theorem ad_ms (σ : MS) (v k : Nat) (s : Int32) : (adS σ v k s).2.1 = (adS (mS σ.2.1) v k s).2.1 := by
  unfold adS
  split
  · rfl
  · rw [put_ms]; rfl
theorem ro_ms (σ : MS) (v to : Nat) (c : Nat) : (if c = 0 then σ else rollS σ v to).2.1 = if c = 0 then σ.2.1 else (rollS (mS σ.2.1) v to).2.1 := by
  split
  · rfl
  · rfl
theorem putV_le (σ : MS) (v k : Nat) (e : Int32) : putV σ v k e ≤ v + 1 := by unfold putV; split <;> omega
theorem adN_le (f : Nat → Nat → Int32) (v k : Nat) (s : Int32) : adN f v k s ≤ v + 1 := by
  unfold adN
  split
  · omega
  · exact putV_le _ _ _ _
theorem gdT_of {b f s : Int32} (h : (okB b && okT f s) = true) : gdT b f s := by
  simp only [Bool.and_eq_true] at h
  exact ⟨h.1, Or.inr h.2⟩
