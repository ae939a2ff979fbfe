/-! the plan's recursion -/
def ffF (sum : Nat → Int32) (sub : Nat → Bool) : Nat → Option (Int32 × Nat)
  | 0 => none
  | m + 1 => if sub m = true then (match ffF sum sub m with
    | none => some (sum m, m)
    | some q => if q.1 < sum m then some (sum m, m) else some q) else ffF sum sub m
def subB (m a : Nat) : Bool := decide (anN m a = 0)
def valO (o : Option (Int32 × Nat)) : Int32 := match o with
  | none => nI 0
  | some q => q.1
def chO (o : Option (Int32 × Nat)) : Nat := match o with
  | none => 0
  | some q => q.2
def bO (b0 : Int32) (o : Option (Int32 × Nat)) : Int32 := match o with
  | none => b0
  | some q => q.1
def plV (wo : Nat → Nat → Int32) (rd : Nat → Nat) (Wk : Nat) : Nat → Nat → Option (Int32 × Nat)
  | 0, _ => none
  | n + 1, left => ffF (fun m => wo m (Wk - (n + 1)) + valO (plV wo rd Wk n (anN left m))) (fun m => subB m (left &&& rd (Wk - (n + 1)))) 32
theorem ff_no {sum : Nat → Int32} {sub : Nat → Bool} {m : Nat} (h : ¬ sub m = true) : ffF sum sub (m + 1) = ffF sum sub m := if_neg h
theorem ff_none {sum : Nat → Int32} {sub : Nat → Bool} (h : sub 0 = true) : ∀ m, ffF sum sub (m + 1) ≠ none := by
  intro m
  induction m with
  | zero =>
    show (if sub 0 = true then _ else _) ≠ none
    rw [if_pos h]
    exact fun e => by cases e
  | succ m ih =>
    show (if sub (m + 1) = true then _ else _) ≠ none
    split
    · split
      · exact fun e => by cases e
      · split <;> exact fun e => by cases e
    · exact ih
theorem ff_new {sum : Nat → Int32} {sub : Nat → Bool} {b0 : Int32} {m : Nat} (h : sub m = true) (h1 : ¬ sum m ≤ bO b0 (ffF sum sub m)) : ffF sum sub (m + 1) = some (sum m, m) := by
  show (if sub m = true then _ else _) = _
  rw [if_pos h]
  cases hr : ffF sum sub m with
  | none => rfl
  | some q =>
    rw [hr] at h1
    have h2 : q.1 < sum m := Int32.not_le.mp h1
    simp [h2]
theorem ff_old {sum : Nat → Int32} {sub : Nat → Bool} {b0 : Int32} {m : Nat} (h : sub m = true) (h0 : sub 0 = true) (hb : b0 < sum 0) (h1 : sum m ≤ bO b0 (ffF sum sub m)) : ffF sum sub (m + 1) = ffF sum sub m := by
  show (if sub m = true then _ else _) = _
  rw [if_pos h]
  cases hr : ffF sum sub m with
  | none =>
    rw [hr] at h1
    cases m with
    | zero => exact absurd hb (Int32.not_lt.mpr h1)
    | succ m => exact absurd hr (ff_none h0 m)
  | some q =>
    rw [hr] at h1
    have h2 : ¬ q.1 < sum m := Int32.not_lt.mpr h1
    simp [h2]
theorem ff_ge {sum : Nat → Int32} {sub : Nat → Bool} (h0 : sub 0 = true) : ∀ m, ∃ q, ffF sum sub (m + 1) = some q ∧ sum 0 ≤ q.1 ∧ q.2 ≤ m ∧ sub q.2 = true := by
  intro m
  induction m with
  | zero => exact ⟨(sum 0, 0), if_pos h0, Int32.le_refl _, Nat.le_refl _, h0⟩
  | succ m ih =>
    obtain ⟨q, h1, h2, h3, h4⟩ := ih
    by_cases hs : sub (m + 1) = true
    · by_cases hq : q.1 < sum (m + 1)
      · refine ⟨(sum (m + 1), m + 1), ?_, Int32.le_trans h2 (Int32.le_of_lt hq), Nat.le_refl _, hs⟩
        show (if sub (m + 1) = true then _ else _) = _
        rw [if_pos hs, h1]
        simp [hq]
      · refine ⟨q, ?_, h2, by omega, h4⟩
        show (if sub (m + 1) = true then _ else _) = _
        rw [if_pos hs, h1]
        simp [hq]
    · exact ⟨q, by rw [ff_no hs, h1], h2, by omega, h4⟩
theorem ff_cut {sum : Nat → Int32} {sub : Nat → Bool} {a : Nat} : ∀ n, (∀ m, a ≤ m → m < a + n → ¬ sub m = true) → ffF sum sub (a + n) = ffF sum sub a := by
  intro n
  induction n with
  | zero => intro _; rfl
  | succ n ih =>
    intro h
    show ffF sum sub (a + n + 1) = _
    rw [ff_no (h (a + n) (by omega) (by omega)), ih (fun m h1 h2 => h m h1 (by omega))]
theorem an_le : ∀ m, m < 32 → ∀ a, a < 32 → anN m a = 0 → m ≤ a := by decide +kernel
theorem an_and : ∀ m, m < 32 → ∀ a, a < 32 → anN m a = 0 → m &&& a = m := by decide +kernel
theorem an_and2 : ∀ m, m < 32 → ∀ a, a < 32 → m &&& a = m → anN m a = 0 := by decide +kernel
theorem an_0 : ∀ a, a < 32 → anN 0 a = 0 := by decide +kernel
theorem an_00 : ∀ a, a < 32 → anN a 0 = a := by decide +kernel
theorem and_lt : ∀ a, a < 32 → ∀ b, b < 32 → a &&& b < 32 := by decide +kernel
theorem an_sub : ∀ l, l < 32 → ∀ m, m < 32 → anN l m &&& l = anN l m := by decide +kernel
theorem an_port {l m p : Nat} (hl : l < 32) (hm : m < 32) (hp : p < 32) (h : anN l p = 0) : anN (anN l m) p = 0 := by
  have h1 := an_and l hl p hp h
  have h2 := an_sub l hl m hm
  have h3 := anN_lt l hl m hm
  refine an_and2 _ h3 _ hp ?_
  have e : anN l m &&& p = anN l m := by
    calc anN l m &&& p = (anN l m &&& l) &&& p := by rw [h2]
      _ = anN l m &&& (l &&& p) := Nat.and_assoc _ _ _
      _ = anN l m &&& l := by rw [h1]
      _ = anN l m := h2
  exact e
theorem and_port {l p r : Nat} (hl : l < 32) (hp : p < 32) (h : anN l p = 0) : l &&& (p &&& r) = l &&& r := by
  rw [← Nat.and_assoc, an_and l hl p hp h]
theorem plV_s {wo : Nat → Nat → Int32} {rd : Nat → Nat} {Wk n left : Nat} : plV wo rd Wk (n + 1) left = ffF (fun m => wo m (Wk - (n + 1)) + valO (plV wo rd Wk n (anN left m))) (fun m => subB m (left &&& rd (Wk - (n + 1)))) 32 := rfl
theorem subB_0 {a : Nat} (h : a < 32) : subB 0 a = true := by unfold subB; rw [an_0 a h]; rfl
theorem plV_pos {wo : Nat → Nat → Int32} {rd : Nat → Nat} {Wk : Nat} (hw : ∀ w, wo 0 w = nI 0) (hr : ∀ w, rd w < 32) : ∀ n left, left < 32 → nI 0 ≤ valO (plV wo rd Wk n left) := by
  intro n
  induction n with
  | zero => intro left _; exact Int32.le_refl _
  | succ n ih =>
    intro left hl
    obtain ⟨q, h1, h2, -, -⟩ := ff_ge (sum := fun m => wo m (Wk - (n + 1)) + valO (plV wo rd Wk n (anN left m))) (sub := fun m => subB m (left &&& rd (Wk - (n + 1)))) (subB_0 (and_lt _ hl _ (hr _))) 31
    rw [plV_s, h1]
    refine Int32.le_trans ?_ h2
    show nI 0 ≤ wo 0 _ + valO (plV wo rd Wk n (anN left 0))
    rw [hw, an_00 left hl]
    have h3 := ih left hl
    have e : nI 0 + valO (plV wo rd Wk n left) = valO (plV wo rd Wk n left) := Int32.zero_add _
    rw [e]
    exact h3
theorem sum_none {x : Nat → Int32} {q : Nat → Bool} : ∀ n, (∀ j, j < n → q j = false) → sumC x q n = nI 0 := by
  intro n
  induction n with
  | zero => intro _; rfl
  | succ n ih =>
    intro h
    rw [← sumC_f (by rw [h n (by omega)]; decide)]
    exact ih (fun j hj => h j (by omega))
theorem rich_none {f : Nat → Int32} : ∀ n, rich f 0 n = none := by
  intro n
  induction n with
  | zero => rfl
  | succ n ih => rw [rich_no (by simp)]; exact ih
theorem wor_0 (f g : Nat → Int32) (pir sto : Int32) (P : Nat) : wor f g pir sto P 0 = nI 0 := by
  unfold wor
  have h1 : sumS (sil f) 0 P = nI 0 := sum_none P (fun j _ => by simp)
  have h2 : tak f g pir P 0 = none := by
    unfold tak
    rw [rich_none]
    split <;> rfl
  rw [h1, h2]
  show (nI 0 - nI 0) * _ = nI 0
  rw [show nI 0 - nI 0 = 0 by decide, Int32.zero_mul]
  rfl
/-- the planner's three rows -/
theorem G3_id (G : II) : va_up (va_up (va_up G 31 (G 31)) 32 (G 32)) 33 (G 33) = G := by
  rw [upG_id G 31, upG_id G 32, upG_id G 33]
theorem G3_33 {G : II} {b c v v' : Nat → Int32} : va_up (va_up (va_up (va_up G 31 b) 32 c) 33 v) 33 v' = va_up (va_up (va_up G 31 b) 32 c) 33 v' := bx_uu _ _ _ _
theorem G3_bc {G : II} {b c v b' c' : Nat → Int32} : va_up (va_up (va_up (va_up (va_up G 31 b) 32 c) 33 v) 31 b') 32 c' = va_up (va_up (va_up G 31 b') 32 c') 33 v := by
  funext q
  simp only [va_up]
  by_cases h1 : q = 31
  · subst h1; simp
  · by_cases h2 : q = 32
    · subst h2; simp
    · simp [h1, h2]
theorem G3_b {G : II} {b c v b' : Nat → Int32} : va_up (va_up (va_up (va_up G 31 b) 32 c) 33 v) 31 b' = va_up (va_up (va_up G 31 b') 32 c) 33 v := by
  funext q
  simp only [va_up]
  by_cases h1 : q = 31
  · subst h1; simp
  · simp [h1]
theorem lt_pred {n : Nat} (h : n < 2 ^ 31) : nI n - nI 1 < nI n := by
  cases n with
  | zero => decide
  | succ n => rw [show nI (n + 1) - nI 1 = nI n from subN rfl rfl (by omega)]; exact nI_lt (by omega) h
