/-! ===== Int32 by its bits: bt x i ===== -/
def bt (x : Int32) (i : Nat) : Bool := x.toBitVec.getLsbD i
theorem b_ext {x y : Int32} (h : ∀ i, i < 32 → bt x i = bt y i) : x = y := Int32.toBitVec_inj.mp (BitVec.eq_of_getLsbD_eq (fun i hi => h i hi))
theorem b_or (x y : Int32) (i : Nat) : bt (x ||| y) i = (bt x i || bt y i) := by unfold bt; rw [Int32.toBitVec_or, BitVec.getLsbD_or]
theorem b_and (x y : Int32) (i : Nat) : bt (x &&& y) i = (bt x i && bt y i) := by unfold bt; rw [Int32.toBitVec_and, BitVec.getLsbD_and]
theorem b_xor (x y : Int32) (i : Nat) : bt (x ^^^ y) i = (bt x i ^^ bt y i) := by unfold bt; rw [Int32.toBitVec_xor, BitVec.getLsbD_xor]
theorem b_big {x : Int32} {i : Nat} (h : 32 ≤ i) : bt x i = false := BitVec.getLsbD_of_ge _ _ h
theorem b_255 (i : Nat) : bt 255 i = decide (i < 8) := by
  rcases Nat.lt_or_ge i 32 with h | h
  · exact (by decide +kernel : ∀ i, i < 32 → bt 255 i = decide (i < 8)) i h
  · rw [b_big h, decide_eq_false (by omega)]
theorem b_65535 (i : Nat) : bt 65535 i = decide (i < 16) := by
  rcases Nat.lt_or_ge i 32 with h | h
  · exact (by decide +kernel : ∀ i, i < 32 → bt 65535 i = decide (i < 16)) i h
  · rw [b_big h, decide_eq_false (by omega)]
theorem b_m1 : ∀ i, i < 32 → bt (-1) i = true := by decide +kernel
theorem b_0 (i : Nat) : bt 0 i = false := BitVec.getLsbD_zero
theorem s_l : ∀ n, n < 32 → ((nI n &&& 31).toBitVec.smod 32).toNat = n := by decide +kernel
theorem s_u : ∀ n, n < 32 → (((nI n).toUInt32 &&& Int32.toUInt32 31).toBitVec % 32).toNat = n := by decide +kernel
theorem b_shl (n : Nat) (hn : n < 32) (x : Int32) {i : Nat} (hi : i < 32) : bt (x <<< (nI n &&& 31)) i = (decide (n ≤ i) && bt x (i - n)) := by
  unfold bt
  rw [Int32.toBitVec_shiftLeft]
  show (x.toBitVec <<< ((nI n &&& 31).toBitVec.smod 32).toNat).getLsbD i = _
  rw [s_l n hn, BitVec.getLsbD_shiftLeft]
  rcases Nat.lt_or_ge i n with h | h
  · simp [h, Nat.not_le.mpr h]
  · simp [hi, h, Nat.not_lt.mpr h]
theorem b_ushr (n : Nat) (hn : n < 32) (x : Int32) (i : Nat) : bt ((x.toUInt32 >>> ((nI n).toUInt32 &&& Int32.toUInt32 31)).toInt32) i = bt x (n + i) := by
  show (x.toUInt32 >>> ((nI n).toUInt32 &&& Int32.toUInt32 31)).toBitVec.getLsbD i = x.toUInt32.toBitVec.getLsbD (n + i)
  rw [UInt32.toBitVec_shiftRight]
  show (x.toUInt32.toBitVec >>> (((nI n).toUInt32 &&& Int32.toUInt32 31).toBitVec % 32).toNat).getLsbD i = _
  rw [s_u n hn, BitVec.getLsbD_ushiftRight]
theorem b_sshr (n : Nat) (hn : n < 32) (x : Int32) {i : Nat} (hi : i < 32) : bt (x >>> (nI n &&& 31)) i = if n + i < 32 then bt x (n + i) else bt x 31 := by
  unfold bt
  rw [Int32.toBitVec_shiftRight]
  show (x.toBitVec.sshiftRight ((nI n &&& 31).toBitVec.smod 32).toNat).getLsbD i = _
  rw [s_l n hn, BitVec.getLsbD_sshiftRight, BitVec.msb_eq_getLsbD_last]
  simp [hi]
/-! the bits of a set of settings -/
theorem tb_bt (x : Int32) {j : Nat} (hj : j < 16) : tbF x j = bt x j := by
  have key : ((x >>> (nI j &&& 31)) &&& 1 = 1) ↔ bt x j = true := by
    have e0 : bt ((x >>> (nI j &&& 31)) &&& 1) 0 = bt x j := by
      rw [b_and, b_sshr j (by omega) x (by omega), if_pos (by omega), show bt 1 0 = true by decide, Bool.and_true, Nat.add_zero]
    constructor
    · intro h
      rw [← e0, h]; decide
    · intro h
      apply b_ext
      intro i hi
      rcases Nat.eq_zero_or_pos i with q | q
      · subst q; rw [e0, h]; decide
      · have e1 : bt 1 i = false := (by decide +kernel : ∀ i, i < 32 → 0 < i → bt 1 i = false) i hi q
        rw [b_and, e1, Bool.and_false]
  unfold tbF
  by_cases h : bt x j = true
  · rw [h]; exact decide_eq_true (key.mpr h)
  · rw [Bool.eq_false_iff.mpr h]
    exact decide_eq_false (fun q => h (key.mp q))
theorem bt_bitI {b j : Nat} (hb : b < 16) (hj : j < 32) : bt (bitI b) j = decide (j = b) := by
  unfold bitI
  rw [b_shl b (by omega) 1 hj]
  by_cases h : b ≤ j
  · by_cases h2 : j = b
    · subst h2; rw [Nat.sub_self]; simp; decide
    · have e1 : bt 1 (j - b) = false := (by decide +kernel : ∀ i, i < 32 → 0 < i → bt 1 i = false) (j - b) (by omega) (by omega)
      simp [h2, e1]
  · have h2 : ¬ j = b := by omega
    simp [h, h2]
theorem tb_or (x : Int32) {b j : Nat} (hb : b < 16) (hj : j < 16) : tbF (x ||| bitI b) j = (tbF x j || decide (j = b)) := by
  rw [tb_bt _ hj, tb_bt _ hj, b_or, bt_bitI hb (by omega)]
theorem tb_not (x : Int32) {b j : Nat} (hb : b < 16) (hj : j < 16) : tbF (x &&& (bitI b ^^^ (-1))) j = (tbF x j && !decide (j = b)) := by
  rw [tb_bt _ hj, tb_bt _ hj, b_and, b_xor, bt_bitI hb (by omega), b_m1 j (by omega), Bool.xor_true]
theorem tb_0 {j : Nat} (hj : j < 16) : tbF 0 j = false := by rw [tb_bt _ hj, b_0]
/-- the class's test of a bit -/
theorem tb_and (x : Int32) {b : Nat} (hb : b < 16) : (x &&& bitI b) = 0 ↔ tbF x b = false := by
  rw [tb_bt _ hb]
  constructor
  · intro h
    have e : bt (x &&& bitI b) b = false := by rw [h]; exact b_0 b
    rw [b_and, bt_bitI hb (by omega)] at e
    simpa using e
  · intro h
    apply b_ext
    intro i hi
    rw [b_and, bt_bitI hb hi, b_0]
    by_cases q : i = b
    · subst q; rw [h]; rfl
    · simp [q]
/-- how many settings are under way -/
def cnU (x : Int32) : Nat := cntF (fun j => tbF x j) 16
theorem cntF_one {p q : Nat → Bool} {b : Nat} (hp : p b = false) (hq : q b = true) (h : ∀ j, j ≠ b → q j = p j) : ∀ {n : Nat}, b < n → cntF q n = cntF p n + 1
  | 0, hn => absurd hn (Nat.not_lt_zero _)
  | n + 1, hn => by
    by_cases e : b = n
    · subst e
      rw [cntF_t hq, cntF_f hp, cntF_cong (fun k hk => h k (by omega))]
    · have ih := cntF_one hp hq h (n := n) (by omega)
      rw [cntF, cntF, ih, h n (by omega)]
      omega
theorem cntF_room {p : Nat → Bool} {b : Nat} (hp : p b = false) : ∀ {n : Nat}, b < n → cntF p n < n
  | 0, hn => absurd hn (Nat.not_lt_zero _)
  | n + 1, hn => by
    by_cases e : b = n
    · subst e
      rw [cntF_f hp]
      have := cntF_le p b
      omega
    · have ih := cntF_room hp (n := n) (by omega)
      rw [cntF]; split <;> omega
theorem cnU_add {x : Int32} {b : Nat} (hb : b < 16) (h : tbF x b = false) : cnU (x ||| bitI b) = cnU x + 1 := by
  have e : cnU (x ||| bitI b) = cntF (fun j => tbF x j || decide (j = b)) 16 := cntF_cong (fun j hj => tb_or x hb hj)
  rw [e]
  exact cntF_one (b := b) h (by simp) (fun j hj => by simp [hj]) hb
theorem cnU_sub {x : Int32} {b : Nat} (hb : b < 16) (h : tbF x b = true) : cnU x = cnU (x &&& (bitI b ^^^ (-1))) + 1 := by
  have e : cnU (x &&& (bitI b ^^^ (-1))) = cntF (fun j => tbF x j && !decide (j = b)) 16 := cntF_cong (fun j hj => tb_not x hb hj)
  rw [e]
  exact cntF_one (b := b) (by simp) h (fun j hj => by simp [hj]) hb
theorem cnU_room {x : Int32} {b : Nat} (hb : b < 16) (h : tbF x b = false) : cnU x < 16 := cntF_room h hb
theorem cnU_0 : cnU 0 = 0 := by decide +kernel
/-! what a question keeps -/
theorem updL_s {f : Nat → Int64} {k : Nat} {x : Int64} : updL f k x k = x := by simp [updL]
theorem updL_n {f : Nat → Int64} {k j : Nat} {x : Int64} (h : j ≠ k) : updL f k x j = f j := by simp [updL, h]
def vS (f : Int32) : Prop := f = -1 ∨ okS f = true
/-- what is known stays, and so does its value; what is found is known -/
theorem ev_keep (dec : Nat → Int32) (hd : ∀ b, b < 16 → dec b ≠ 0 → vS (dF (dec b)) ∧ vS (dS (dec b))) : ∀ (d b : Nat) (z : ES), b < 16 → (∀ j, j < 16 → tbF z.2.2.1 j = true → tbF (ev dec d b z).1.2.2.1 j = true ∧ (ev dec d b z).1.2.2.2 j = z.2.2.2 j) ∧ ((ev dec d b z).2 = none → tbF (ev dec d b z).1.2.2.1 b = true ∧ (ev dec d b z).1.2.1 = z.2.1) := by
  intro d
  induction d with
  | zero => intro b z hb; exact ⟨fun j _ h => ⟨h, rfl⟩, fun h => by cases h⟩
  | succ d ih =>
    intro b z hb
    unfold ev
    by_cases h1 : tbF z.2.2.1 b = true
    · rw [if_pos h1]; exact ⟨fun j _ h => ⟨h, rfl⟩, fun _ => ⟨h1, rfl⟩⟩
    · rw [if_neg h1]
      by_cases h2 : dec b = 0
      · rw [if_pos h2]; exact ⟨fun j _ h => ⟨h, rfl⟩, fun h => by cases h⟩
      · rw [if_neg h2]
        by_cases h3 : tbF z.2.1 b = true
        · rw [if_pos h3]; exact ⟨fun j _ h => ⟨h, rfl⟩, fun h => by cases h⟩
        · rw [if_neg h3]
          obtain ⟨v1, v2⟩ := hd b hb h2
          have part : ∀ (f : Int32) (z0 : ES), vS f → ∃ E : ES × Option (Int32 × Int32), (if f = -1 then (z0, none) else ev dec d (ix f) z0) = E ∧ (∀ j, j < 16 → tbF z0.2.2.1 j = true → tbF E.1.2.2.1 j = true ∧ E.1.2.2.2 j = z0.2.2.2 j) ∧ (E.2 = none → E.1.2.1 = z0.2.1) := by
            intro f z0 hf
            refine ⟨_, rfl, ?_⟩
            by_cases hm : f = -1
            · rw [if_pos hm]; exact ⟨fun j _ h => ⟨h, rfl⟩, fun _ => rfl⟩
            · rw [if_neg hm]
              obtain ⟨j0, hj0, rfl⟩ := okS_of (hf.resolve_left hm)
              rw [ix_nI (by omega)]
              obtain ⟨a1, a2⟩ := ih j0 z0 hj0
              exact ⟨a1, fun h => (a2 h).2⟩
          obtain ⟨E1, e1, k1, u1⟩ := part (dF (dec b)) (z.1 ||| bitI b, z.2.1 ||| bitI b, z.2.2) v1
          dsimp only
          rw [e1]
          cases hE1 : E1.2 with
          | some x => exact ⟨fun j hj h => k1 j hj h, fun h => by cases h⟩
          | none =>
            obtain ⟨E2, e2, k2, u2⟩ := part (dS (dec b)) E1.1 v2
            dsimp only
            rw [e2]
            have keep : ∀ j, j < 16 → tbF z.2.2.1 j = true → tbF E2.1.2.2.1 j = true ∧ E2.1.2.2.2 j = z.2.2.2 j := fun j hj h => by
              obtain ⟨a1, a2⟩ := k1 j hj h
              obtain ⟨b1, b2⟩ := k2 j hj a1
              exact ⟨b1, b2.trans a2⟩
            cases hE2 : E2.2 with
            | some x => exact ⟨keep, fun h => by cases h⟩
            | none =>
              refine ⟨fun j hj h => ?_, fun _ => ?_⟩
              · obtain ⟨a1, a2⟩ := keep j hj h
                have hne : j ≠ b := fun q => h1 (by rw [← q]; exact h)
                exact ⟨by show tbF (E2.1.2.2.1 ||| bitI b) j = true; rw [tb_or _ hb hj, a1]; rfl, by show updL _ b _ j = _; rw [updL_n hne]; exact a2⟩
              · refine ⟨by show tbF (E2.1.2.2.1 ||| bitI b) b = true; rw [tb_or _ hb hb]; simp, ?_⟩
                show E2.1.2.1 &&& (bitI b ^^^ (-1)) = z.2.1
                rw [u2 hE2, u1 hE1]
                have h4 : bt z.2.1 b = false := by rw [← tb_bt _ hb]; simpa using h3
                apply b_ext
                intro i hi
                show bt ((z.2.1 ||| bitI b) &&& (bitI b ^^^ (-1))) i = bt z.2.1 i
                rw [b_and, b_or, b_xor, bt_bitI hb hi, b_m1 i hi]
                by_cases q : i = b
                · subst q; rw [h4]; simp
                · simp [q]
