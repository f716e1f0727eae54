/-! what a question works out: sets of settings as bits, one step of it, the whole of it -/
def bitI (b : Nat) : Int32 := (1 : Int32) <<< (nI b &&& 31)
def tbF (x : Int32) (b : Nat) : Bool := decide (((x >>> (nI b &&& 31)) &&& 1) = 1)
/-- the level, by how many wait -/
def lvI (d : Nat) : Int32 := nI d - 1
theorem lvI_s (d : Nat) : lvI d + 1 = nI d := by
  unfold lvI
  rw [Int32.sub_add_cancel]
theorem lvI_p {d : Nat} (h : 1 ≤ d) : lvI d = nI (d - 1) := by
  unfold lvI
  exact pk_sub (a := d) (b := 1) h
theorem lvI_q (d : Nat) : lvI (d + 1) = nI d := lvI_p (by omega)
theorem lvI_0 {d : Nat} (hd : d < 65536) (h : lvI d < 0) : d = 0 := by
  rcases Nat.eq_zero_or_pos d with q | q
  · exact q
  · rw [lvI_p q] at h
    exact absurd h (nI_pos (by omega))
theorem lvI_n {d : Nat} (h : ¬ lvI d < 0) : ∃ n, d = n + 1 := by
  cases d with
  | zero => exact absurd (show lvI 0 < 0 by decide) h
  | succ n => exact ⟨n, rfl⟩
theorem loI_none {x : Option Nat} (hx : ∀ j, x = some j → j < 65536) (h : loI x = -1) : x = none := by
  cases x with
  | none => rfl
  | some j => exact absurd h (nI_m1 (hx j rfl))
theorem loI_some {x : Option Nat} (h : ¬ loI x = -1) : ∃ j, x = some j := by
  cases x with
  | none => exact absurd rfl h
  | some j => exact ⟨j, rfl⟩
def pushS (σ : MS) (d b : Nat) (e : Int32) : MS := sa (sl (sa (sa (sg (sg (sg σ 22 (σ.1 22 ||| bitI b)) 18 (nI d)) 21 (σ.1 21 ||| bitI b)) 14 d (nI b)) 15 d e) 16 d (dB e).toInt64) 17 d 0
def failS (σ : MS) (b : Nat) (why : Int32) : MS := sg (sg (sg σ 22 (σ.1 22 ||| bitI b)) 23 why) 24 (nI b)
/-- behind needs(c, b, w), with d that wait -/
def nedS (σ : MS) (nL c b : Nat) (w : Option Nat) (d : Nat) : MS := if tbF (σ.1 20) b = true then sl (sg σ 22 (σ.1 22 ||| bitI b)) 16 (d - 1) (σ.2.2 16 (d - 1) + σ.2.2 19 b) else match decO σ.2.1 c b w nL with
  | none => failS σ b 1
  | some j => if tbF (σ.1 21) b = true then failS σ b 2 else pushS σ d b (shwF σ.2.1 c (16 * j + b) w)
theorem nedS_k {σ : MS} {nL c b : Nat} {w : Option Nat} {d : Nat} (h : tbF (σ.1 20) b = true) : nedS σ nL c b w d = sl (sg σ 22 (σ.1 22 ||| bitI b)) 16 (d - 1) (σ.2.2 16 (d - 1) + σ.2.2 19 b) := by rw [nedS, if_pos h]
theorem nedS_m {σ : MS} {nL c b : Nat} {w : Option Nat} {d : Nat} (h : tbF (σ.1 20) b = false) (h2 : decO σ.2.1 c b w nL = none) : nedS σ nL c b w d = failS σ b 1 := by rw [nedS, if_neg (by rw [h]; decide), h2]
theorem nedS_c {σ : MS} {nL c b j : Nat} {w : Option Nat} {d : Nat} (h : tbF (σ.1 20) b = false) (h2 : decO σ.2.1 c b w nL = some j) (h3 : tbF (σ.1 21) b = true) : nedS σ nL c b w d = failS σ b 2 := by
  rw [nedS, if_neg (by rw [h]; decide), h2]
  exact if_pos h3
theorem nedS_p {σ : MS} {nL c b j : Nat} {w : Option Nat} {d : Nat} (h : tbF (σ.1 20) b = false) (h2 : decO σ.2.1 c b w nL = some j) (h3 : tbF (σ.1 21) b = false) : nedS σ nL c b w d = pushS σ d b (shwF σ.2.1 c (16 * j + b) w) := by
  rw [nedS, if_neg (by rw [h]; decide), h2]
  exact if_neg (by rw [h3]; decide)
/-- behind finds(), where n + 1 wait, the last one for b -/
def fndT (σ : MS) (n b : Nat) : MS := sg (sl (sg (sg σ 20 (σ.1 20 ||| bitI b)) 21 (σ.1 21 &&& (bitI b ^^^ (-1)))) 19 b (σ.2.2 16 n)) 18 (lvI n)
def fndS (σ : MS) (n b : Nat) : MS := match n with
  | 0 => fndT σ 0 b
  | m + 1 => sl (fndT σ (m + 1) b) 16 m (σ.2.2 16 m + σ.2.2 16 (m + 1))
/-- looked at, under way, known, the values -/
abbrev ES : Type := Int32 × Int32 × Int32 × (Nat → Int64)
def updL (f : Nat → Int64) (k : Nat) (x : Int64) : Nat → Int64 := fun j => if j = k then x else f j
def partF (va : Nat → Int64) (f : Int32) : Int64 := if f = -1 then 0 else va (ix f)
def finE (z : ES) (b : Nat) (e : Int32) : ES := (z.1, z.2.1 &&& (bitI b ^^^ (-1)), z.2.2.1 ||| bitI b, updL z.2.2.2 b ((dB e).toInt64 + partF z.2.2.2 (dF e) + partF z.2.2.2 (dS e)))
/-- b is worked out; dec: the entry that the deciding layer shows, 0 without one; what fails: the status and the culprit -/
def ev (dec : Nat → Int32) : Nat → Nat → ES → ES × Option (Int32 × Int32)
  | 0, b, z => ((z.1 ||| bitI b, z.2), some (2, nI b))
  | d + 1, b, z =>
    if tbF z.2.2.1 b = true then ((z.1 ||| bitI b, z.2), none)
    else if dec b = 0 then ((z.1 ||| bitI b, z.2), some (1, nI b))
    else if tbF z.2.1 b = true then ((z.1 ||| bitI b, z.2), some (2, nI b))
    else
      let r1 := if dF (dec b) = -1 then ((z.1 ||| bitI b, z.2.1 ||| bitI b, z.2.2), none) else ev dec d (ix (dF (dec b))) (z.1 ||| bitI b, z.2.1 ||| bitI b, z.2.2)
      match r1.2 with
      | some x => (r1.1, some x)
      | none =>
        let r2 := if dS (dec b) = -1 then (r1.1, none) else ev dec d (ix (dS (dec b))) r1.1
        match r2.2 with
        | some x => (r2.1, some x)
        | none => (finE r2.1 b (dec b), none)
