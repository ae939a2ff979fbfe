/-! the reference's tokens -/
theorem IM13 {I : II} {a b c d a' : Int32} : up2 (up2 (up2 (up2 (up2 I 0 13 a) 0 14 b) 0 15 c) 0 16 d) 0 13 a' = up2 (up2 (up2 (up2 I 0 13 a') 0 14 b) 0 15 c) 0 16 d := by
  funext q z
  simp only [up2]
  by_cases h1 : q = 0
  · by_cases h2 : z = 13
    · subst h2; simp [h1]
    · simp [h1, h2]
  · simp [h1]
theorem IM14 {I : II} {a b c d b' : Int32} : up2 (up2 (up2 (up2 (up2 I 0 13 a) 0 14 b) 0 15 c) 0 16 d) 0 14 b' = up2 (up2 (up2 (up2 I 0 13 a) 0 14 b') 0 15 c) 0 16 d := by
  funext q z
  simp only [up2]
  by_cases h1 : q = 0
  · by_cases h2 : z = 14
    · subst h2; simp [h1]
    · simp [h1, h2]
  · simp [h1]
theorem IM15 {I : II} {a b c d c' : Int32} : up2 (up2 (up2 (up2 (up2 I 0 13 a) 0 14 b) 0 15 c) 0 16 d) 0 15 c' = up2 (up2 (up2 (up2 I 0 13 a) 0 14 b) 0 15 c') 0 16 d := by
  funext q z
  simp only [up2]
  by_cases h1 : q = 0
  · by_cases h2 : z = 15
    · subst h2; simp [h1]
    · simp [h1, h2]
  · simp [h1]
theorem IM16 {I : II} {a b c d d' : Int32} : up2 (up2 (up2 (up2 (up2 I 0 13 a) 0 14 b) 0 15 c) 0 16 d) 0 16 d' = up2 (up2 (up2 (up2 I 0 13 a) 0 14 b) 0 15 c) 0 16 d' := by
  funext q z
  simp only [up2]
  by_cases h1 : q = 0
  · by_cases h2 : z = 16
    · subst h2; simp [h1]
    · simp [h1, h2]
  · simp [h1]
theorem IM_id (I : II) : up2 (up2 (up2 (up2 I 0 13 (I 0 13)) 0 14 (I 0 14)) 0 15 (I 0 15)) 0 16 (I 0 16) = I := by
  funext q z
  simp only [up2]
  by_cases h1 : q = 0
  · by_cases h2 : z = 13
    · subst h2; simp [h1]
    · by_cases h3 : z = 14
      · subst h3; simp [h1]
      · by_cases h4 : z = 15
        · subst h4; simp [h1]
        · by_cases h5 : z = 16
          · subst h5; simp [h1]
          · simp [h1, h2, h3, h4, h5]
  · simp [h1]
def msK (bt : Nat → Nat) (n p : Nat) : Nat := if n ≤ p then 3 else if isL (bt p) = true then (if spE (qL bt n) p = p + 1 then bt p else 4) else if isD (bt p) = true then (if 99 < nvM bt p (spE (qD bt n) p - p) ∨ (bt p = 48 ∧ p + 1 < spE (qD bt n) p) then 4 else 1) else if bt p = 59 then 2 else 4
def msE (bt : Nat → Nat) (n p : Nat) : Nat := if n ≤ p then p else if isL (bt p) = true then spE (qL bt n) p else if isD (bt p) = true then spE (qD bt n) p else p + 1
def msV (bt : Nat → Nat) (n p : Nat) : Nat := if n ≤ p then 0 else if isL (bt p) = true then 0 else if isD (bt p) = true then nvM bt p (spE (qD bt n) p - p) else 0
theorem msE_n {bt : Nat → Nat} {n p : Nat} (hp : p ≤ n) : msE bt n p ≤ n := by
  unfold msE
  split
  · exact hp
  · split
    · exact spE_n qL_n hp
    · split
      · exact spE_n qD_n hp
      · omega
theorem nvM_b {bt : Nat → Nat} {p : Nat} (hb : ∀ i, bt i - 48 < 256) : ∀ k, nvM bt p k < 2000 := by
  intro k
  induction k with
  | zero => show (0 : Nat) < 2000; decide
  | succ k ih =>
    have e2 : nvM bt p (k + 1) = if 99 < nvM bt p k then nvM bt p k else 10 * nvM bt p k + (bt (p + k) - 48) := rfl
    rw [e2]
    have := hb (p + k)
    split <;> omega
