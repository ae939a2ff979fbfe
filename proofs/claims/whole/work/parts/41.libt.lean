/-! tokens of a text: bytes by, n of them -/
def isL (c : Nat) : Bool := decide (97 ≤ c) && decide (c ≤ 122)
def isD (c : Nat) : Bool := decide (48 ≤ c) && decide (c ≤ 57)
def spn (q : Nat → Bool) : Nat → Nat → Nat
  | 0, e => e
  | k + 1, e => if q e = true then spn q k (e + 1) else e
def spE (q : Nat → Bool) (e : Nat) : Nat := spn q (200 - e) e
theorem spE_t {q : Nat → Bool} {e : Nat} (h : q e = true) (he : e < 200) : spE q (e + 1) = spE q e := by
  unfold spE
  obtain ⟨k, hk⟩ : ∃ k, 200 - e = k + 1 := ⟨200 - e - 1, by omega⟩
  rw [hk, show 200 - (e + 1) = k by omega]
  show _ = if q e = true then _ else _
  rw [if_pos h]
theorem spE_f {q : Nat → Bool} {e : Nat} (h : q e = false) : spE q e = e := by
  unfold spE
  cases 200 - e with
  | zero => rfl
  | succ k =>
    show (if q e = true then _ else _) = _
    rw [if_neg (by rw [h]; decide)]
theorem spn_le {q : Nat → Bool} : ∀ k e, e ≤ spn q k e := by
  intro k
  induction k with
  | zero => intro e; exact Nat.le_refl _
  | succ k ih =>
    intro e
    show e ≤ if q e = true then _ else _
    split
    · exact Nat.le_trans (Nat.le_succ e) (ih (e + 1))
    · exact Nat.le_refl _
theorem spE_le {q : Nat → Bool} {e : Nat} : e ≤ spE q e := spn_le _ _
theorem spn_n {q : Nat → Bool} {n : Nat} (hq : ∀ i, q i = true → i < n) : ∀ k e, e ≤ n → spn q k e ≤ n := by
  intro k
  induction k with
  | zero => intro e h; exact h
  | succ k ih =>
    intro e h
    show (if q e = true then _ else _) ≤ n
    split
    · rename_i h1; exact ih (e + 1) (hq e h1)
    · exact h
theorem spE_n {q : Nat → Bool} {n e : Nat} (hq : ∀ i, q i = true → i < n) (he : e ≤ n) : spE q e ≤ n := spn_n hq _ _ he
theorem spE_lt {q : Nat → Bool} {e : Nat} (h : q e = true) (he : e < 200) : e < spE q e := by
  rw [← spE_t h he]
  exact spE_le
def qS (bt : Nat → Nat) (n i : Nat) : Bool := decide (i < n) && decide (bt i = 32)
def qL (bt : Nat → Nat) (n i : Nat) : Bool := decide (i < n) && isL (bt i)
def qD (bt : Nat → Nat) (n i : Nat) : Bool := decide (i < n) && isD (bt i)
theorem qS_n {bt : Nat → Nat} {n : Nat} : ∀ i, qS bt n i = true → i < n := fun i h => by unfold qS at h; simp at h; exact h.1
theorem qL_n {bt : Nat → Nat} {n : Nat} : ∀ i, qL bt n i = true → i < n := fun i h => by unfold qL at h; simp at h; exact h.1
theorem qD_n {bt : Nat → Nat} {n : Nat} : ∀ i, qD bt n i = true → i < n := fun i h => by unfold qD at h; simp at h; exact h.1
/-- a number's digits: held low, as the class does; as the reference does -/
def nvC (bt : Nat → Nat) (p : Nat) : Nat → Nat
  | 0 => 0
  | k + 1 => min (nvC bt p k * 10 + (bt (p + k) - 48)) 100
def nvM (bt : Nat → Nat) (p : Nat) : Nat → Nat
  | 0 => 0
  | k + 1 => if 99 < nvM bt p k then nvM bt p k else 10 * nvM bt p k + (bt (p + k) - 48)
theorem nv_eq {bt : Nat → Nat} {p : Nat} : ∀ k, (∀ i, i < k → isD (bt (p + i)) = true) → nvC bt p k = min (nvM bt p k) 100 ∧ nvM bt p k < 1000 := by
  intro k
  induction k with
  | zero => intro _; exact ⟨rfl, by show (0 : Nat) < 1000; decide⟩
  | succ k ih =>
    intro h
    obtain ⟨h1, h2⟩ := ih (fun i hi => h i (by omega))
    have h3 := h k (by omega)
    unfold isD at h3
    simp at h3
    have e1 : nvC bt p (k + 1) = min (nvC bt p k * 10 + (bt (p + k) - 48)) 100 := rfl
    have e2 : nvM bt p (k + 1) = if 99 < nvM bt p k then nvM bt p k else 10 * nvM bt p k + (bt (p + k) - 48) := rfl
    rw [e1, e2, h1]
    split
    · omega
    · omega
/-- the token that begins at p: what it is (0 nothing, 1 letters, 2 number, 3 semicolon, 4 wrong), what is behind it, its value -/
def tkK (bt : Nat → Nat) (n p : Nat) : Nat := if n ≤ p then 0 else if bt p = 59 then 3 else if isL (bt p) = true then 1 else if isD (bt p) = true then (if 99 < nvC bt p (spE (qD bt n) p - p) ∨ (bt p = 48 ∧ p + 1 < spE (qD bt n) p) then 4 else 2) else 4
def tkE (bt : Nat → Nat) (n p : Nat) : Nat := if n ≤ p then p else if bt p = 59 then p + 1 else if isL (bt p) = true then spE (qL bt n) p else if isD (bt p) = true then spE (qD bt n) p else p
def tkV (bt : Nat → Nat) (n p : Nat) : Nat := if isL (bt p) = true then (if spE (qL bt n) p = p + 1 then bt p else 0) else nvC bt p (spE (qD bt n) p - p)
theorem tkE_n {bt : Nat → Nat} {n p : Nat} (hp : p ≤ n) : tkE bt n p ≤ n := by
  unfold tkE
  split
  · exact hp
  · split
    · omega
    · split
      · exact spE_n qL_n hp
      · split
        · exact spE_n qD_n hp
        · exact hp
theorem tkE_le {bt : Nat → Nat} {n p : Nat} : p ≤ tkE bt n p := by
  unfold tkE
  split
  · exact Nat.le_refl _
  · split
    · omega
    · split
      · exact spE_le
      · split
        · exact spE_le
        · exact Nat.le_refl _
/-- where a scan from e comes to -/
def skp (bt : Nat → Nat) (n e : Nat) : Nat := spE (qS bt n) e
theorem skp_n {bt : Nat → Nat} {n e : Nat} (h : e ≤ n) : skp bt n e ≤ n := spE_n qS_n h
theorem skp_le {bt : Nat → Nat} {n e : Nat} : e ≤ skp bt n e := spE_le
theorem IT2 {I : II} {a b c d a' : Int32} : up2 (up2 (up2 (up2 (up2 I 1 2 a) 1 3 b) 1 4 c) 1 5 d) 1 2 a' = up2 (up2 (up2 (up2 I 1 2 a') 1 3 b) 1 4 c) 1 5 d := by
  funext q z
  simp only [up2]
  by_cases h1 : q = 1
  · by_cases h2 : z = 2
    · subst h2; simp [h1]
    · simp [h1, h2]
  · simp [h1]
theorem IT3 {I : II} {a b c d b' : Int32} : up2 (up2 (up2 (up2 (up2 I 1 2 a) 1 3 b) 1 4 c) 1 5 d) 1 3 b' = up2 (up2 (up2 (up2 I 1 2 a) 1 3 b') 1 4 c) 1 5 d := by
  funext q z
  simp only [up2]
  by_cases h1 : q = 1
  · by_cases h2 : z = 3
    · subst h2; simp [h1]
    · simp [h1, h2]
  · simp [h1]
theorem IT4 {I : II} {a b c d c' : Int32} : up2 (up2 (up2 (up2 (up2 I 1 2 a) 1 3 b) 1 4 c) 1 5 d) 1 4 c' = up2 (up2 (up2 (up2 I 1 2 a) 1 3 b) 1 4 c') 1 5 d := by
  funext q z
  simp only [up2]
  by_cases h1 : q = 1
  · by_cases h2 : z = 4
    · subst h2; simp [h1]
    · simp [h1, h2]
  · simp [h1]
theorem IT5 {I : II} {a b c d d' : Int32} : up2 (up2 (up2 (up2 (up2 I 1 2 a) 1 3 b) 1 4 c) 1 5 d) 1 5 d' = up2 (up2 (up2 (up2 I 1 2 a) 1 3 b) 1 4 c) 1 5 d' := up2_uu _ _ _ _ _
theorem IT_id (I : II) : up2 (up2 (up2 (up2 I 1 2 (I 1 2)) 1 3 (I 1 3)) 1 4 (I 1 4)) 1 5 (I 1 5) = I := by
  funext q z
  simp only [up2]
  by_cases h1 : q = 1
  · by_cases h2 : z = 2
    · subst h2; simp [h1]
    · by_cases h3 : z = 3
      · subst h3; simp [h1]
      · by_cases h4 : z = 4
        · subst h4; simp [h1]
        · by_cases h5 : z = 5
          · subst h5; simp [h1]
          · simp [h1, h2, h3, h4, h5]
  · simp [h1]
theorem nvC_le {bt : Nat → Nat} {p : Nat} (k : Nat) : nvC bt p k ≤ 100 := by
  cases k with
  | zero => exact Nat.zero_le _
  | succ k => exact Nat.min_le_right _ _
