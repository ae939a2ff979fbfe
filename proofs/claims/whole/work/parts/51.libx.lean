/-! the two sorts of tokens, side by side -/
theorem spn_all {q : Nat → Bool} : ∀ k e i, e ≤ i → i < spn q k e → q i = true := by
  intro k
  induction k with
  | zero => intro e i h1 h2; exact absurd (show i < e from h2) (by omega)
  | succ k ih =>
    intro e i h1 h2
    have h3 : i < (if q e = true then spn q k (e + 1) else e) := h2
    by_cases hq : q e = true
    · rw [if_pos hq] at h3
      by_cases hi : i = e
      · rw [hi]; exact hq
      · exact ih (e + 1) i (by omega) h3
    · rw [if_neg hq] at h3; omega
theorem spE_all {q : Nat → Bool} {e i : Nat} (h1 : e ≤ i) (h2 : i < spE q e) : q i = true := spn_all _ _ _ h1 h2
theorem dig_eq {bt : Nat → Nat} {n p : Nat} : nvC bt p (spE (qD bt n) p - p) = min (nvM bt p (spE (qD bt n) p - p)) 100 ∧ nvM bt p (spE (qD bt n) p - p) < 1000 := by
  refine nv_eq _ (fun i hi => ?_)
  have h := spE_all (q := qD bt n) (e := p) (i := p + i) (by omega) (by omega)
  unfold qD at h
  simp at h
  exact h.2
theorem isLD {c : Nat} (h : isL c = true) : ¬ isD c = true ∧ c ≠ 59 := by
  unfold isL at h
  unfold isD
  simp at h ⊢
  omega
theorem isD5 {c : Nat} (h : isD c = true) : c ≠ 59 ∧ ¬ isL c = true := by
  unfold isD at h
  unfold isL
  simp at h ⊢
  omega
theorem msK_b {bt : Nat → Nat} {n p : Nat} (hb : ∀ i, i < 180 → bt i < 256) (hn : n ≤ 180) : msK bt n p < 256 := by
  unfold msK
  split
  · decide
  · have := hb p (by omega)
    repeat' split
    all_goals omega
theorem msV_b {bt : Nat → Nat} {n p : Nat} : msV bt n p < 1000 := by
  unfold msV
  split
  · decide
  · split
    · decide
    · split
      · exact dig_eq.2
      · decide
/-- nothing left -/
theorem tm_0 {bt : Nat → Nat} {n p : Nat} : tkK bt n p = 0 ↔ msK bt n p = 3 := by
  by_cases h : n ≤ p
  · rw [show tkK bt n p = 0 from if_pos h, show msK bt n p = 3 from if_pos h]; simp
  · have h0 : tkK bt n p ≠ 0 := by
      unfold tkK
      rw [if_neg h]
      repeat' split
      all_goals omega
    have h1 : msK bt n p ≠ 3 := by
      unfold msK
      rw [if_neg h]
      by_cases h2 : isL (bt p) = true
      · rw [if_pos h2]
        have : 97 ≤ bt p := by unfold isL at h2; simp at h2; exact h2.1
        split <;> omega
      · rw [if_neg h2]
        repeat' split
        all_goals omega
    exact ⟨fun h => absurd h h0, fun h => absurd h h1⟩
theorem tm_cases {bt : Nat → Nat} {n p : Nat} (h : p < n) :
    (isL (bt p) = true ∧ tkK bt n p = 1 ∧ tkE bt n p = msE bt n p ∧ (tkV bt n p = if spE (qL bt n) p = p + 1 then bt p else 0) ∧ (msK bt n p = if spE (qL bt n) p = p + 1 then bt p else 4)) ∨
    (isD (bt p) = true ∧ tkE bt n p = msE bt n p ∧ ((tkK bt n p = 2 ∧ msK bt n p = 1 ∧ tkV bt n p = msV bt n p) ∨ (tkK bt n p = 4 ∧ msK bt n p = 4))) ∨
    (bt p = 59 ∧ tkK bt n p = 3 ∧ msK bt n p = 2 ∧ tkE bt n p = msE bt n p) ∨ (tkK bt n p = 4 ∧ msK bt n p = 4) := by
  have hn : ¬ n ≤ p := by omega
  by_cases h1 : isL (bt p) = true
  · have h5 := (isLD h1).2
    exact Or.inl ⟨h1, (if_neg hn).trans ((if_neg h5).trans (if_pos h1)), ((if_neg hn).trans ((if_neg h5).trans (if_pos h1))).trans ((if_neg hn).trans (if_pos h1)).symm, if_pos h1, (if_neg hn).trans (if_pos h1)⟩
  · by_cases h2 : isD (bt p) = true
    · have h5 := (isD5 h2).1
      obtain ⟨d1, d2⟩ := dig_eq (bt := bt) (n := n) (p := p)
      have e1 : tkE bt n p = msE bt n p := ((if_neg hn).trans ((if_neg h5).trans ((if_neg h1).trans (if_pos h2)))).trans ((if_neg hn).trans ((if_neg h1).trans (if_pos h2))).symm
      have k1 : tkK bt n p = _ := (if_neg hn).trans ((if_neg h5).trans ((if_neg h1).trans (if_pos h2)))
      have k2 : msK bt n p = _ := (if_neg hn).trans ((if_neg h1).trans (if_pos h2))
      have v1 : tkV bt n p = _ := if_neg h1
      have v2 : msV bt n p = _ := (if_neg hn).trans ((if_neg h1).trans (if_pos h2))
      refine Or.inr (Or.inl ⟨h2, e1, ?_⟩)
      by_cases hc : 99 < nvM bt p (spE (qD bt n) p - p) ∨ (bt p = 48 ∧ p + 1 < spE (qD bt n) p)
      · right
        rw [if_pos (by omega)] at k1
        rw [if_pos hc] at k2
        exact ⟨k1, k2⟩
      · left
        rw [if_neg (by omega)] at k1
        rw [if_neg hc] at k2
        exact ⟨k1, k2, by rw [v1, v2, d1]; omega⟩
    · by_cases h5 : bt p = 59
      · exact Or.inr (Or.inr (Or.inl ⟨h5, (if_neg hn).trans (if_pos h5), (if_neg hn).trans ((if_neg h1).trans ((if_neg h2).trans (if_pos h5))), ((if_neg hn).trans (if_pos h5)).trans ((if_neg hn).trans ((if_neg h1).trans (if_neg h2))).symm⟩))
      · exact Or.inr (Or.inr (Or.inr ⟨(if_neg hn).trans ((if_neg h5).trans ((if_neg h1).trans (if_neg h2))), (if_neg hn).trans ((if_neg h1).trans ((if_neg h2).trans (if_neg h5)))⟩))
theorem isL_b {c : Nat} (h : isL c = true) : 97 ≤ c := by unfold isL at h; simp at h; exact h.1
theorem tm_2 {bt : Nat → Nat} {n p : Nat} : tkK bt n p = 2 ↔ msK bt n p = 1 := by
  by_cases h : p < n
  · obtain ⟨a, b, c, d, e⟩ | ⟨a, b, ⟨c, d, e⟩ | ⟨c, d⟩⟩ | ⟨a, b, c, d⟩ | ⟨a, b⟩ := tm_cases (bt := bt) h
    · have := isL_b a
      have h1 : msK bt n p ≠ 1 := by rw [e]; split <;> omega
      omega
    all_goals omega
  · have h0 := (tm_0 (bt := bt) (n := n) (p := p))
    have h1 : tkK bt n p = 0 := if_pos (by omega)
    have h2 := h0.mp h1
    omega
theorem tm_2v {bt : Nat → Nat} {n p : Nat} (h : tkK bt n p = 2) : tkV bt n p = msV bt n p ∧ tkE bt n p = msE bt n p := by
  have hp := tkK_lt (bt := bt) (n := n) (p := p) (by omega)
  obtain ⟨a, b, c, d, e⟩ | ⟨a, b, ⟨c, d, e⟩ | ⟨c, d⟩⟩ | ⟨a, b, c, d⟩ | ⟨a, b⟩ := tm_cases (bt := bt) hp
  · omega
  · exact ⟨e, b⟩
  all_goals omega
theorem tm_3 {bt : Nat → Nat} {n p : Nat} : tkK bt n p = 3 ↔ msK bt n p = 2 := by
  by_cases h : p < n
  · obtain ⟨a, b, c, d, e⟩ | ⟨a, b, ⟨c, d, e⟩ | ⟨c, d⟩⟩ | ⟨a, b, c, d⟩ | ⟨a, b⟩ := tm_cases (bt := bt) h
    · have := isL_b a
      have h1 : msK bt n p ≠ 2 := by rw [e]; split <;> omega
      omega
    all_goals omega
  · have h0 := (tm_0 (bt := bt) (n := n) (p := p))
    have h1 : tkK bt n p = 0 := if_pos (by omega)
    have h2 := h0.mp h1
    omega
theorem tm_3e {bt : Nat → Nat} {n p : Nat} (h : tkK bt n p = 3) : tkE bt n p = msE bt n p := by
  have hp := tkK_lt (bt := bt) (n := n) (p := p) (by omega)
  obtain ⟨a, b, c, d, e⟩ | ⟨a, b, ⟨c, d, e⟩ | ⟨c, d⟩⟩ | ⟨a, b, c, d⟩ | ⟨a, b⟩ := tm_cases (bt := bt) hp
  · omega
  · omega
  · omega
  · exact d
  · omega
theorem tm_c {bt : Nat → Nat} {n p c : Nat} (hc : 97 ≤ c) : ltr bt n p = c ↔ msK bt n p = c := by
  unfold ltr
  by_cases h : p < n
  · obtain ⟨a, b, c', d, e⟩ | ⟨a, b, ⟨c', d, e⟩ | ⟨c', d⟩⟩ | ⟨a, b, c', d⟩ | ⟨a, b⟩ := tm_cases (bt := bt) h
    · rw [if_pos b, d, e]
      split <;> omega
    · rw [if_neg (by omega)]; omega
    · rw [if_neg (by omega)]; omega
    · rw [if_neg (by omega)]; omega
    · rw [if_neg (by omega)]; omega
  · have h0 := (tm_0 (bt := bt) (n := n) (p := p))
    have h1 : tkK bt n p = 0 := if_pos (by omega)
    have h2 := h0.mp h1
    rw [if_neg (by omega)]
    omega
theorem tm_1e {bt : Nat → Nat} {n p : Nat} (h : tkK bt n p = 1) : tkE bt n p = msE bt n p := by
  have hp := tkK_lt (bt := bt) (n := n) (p := p) (by omega)
  obtain ⟨a, b, c, d, e⟩ | ⟨a, b, ⟨c, d, e⟩ | ⟨c, d⟩⟩ | ⟨a, b, c, d⟩ | ⟨a, b⟩ := tm_cases (bt := bt) hp
  · exact c
  all_goals omega
/-- the reference's state: whether there is a fault, and the token's place -/
def RI (bt : Nat → Nat) (n : Nat) (I : II) (s : Bool × Nat) : II := up2 (up2 (up2 (up2 (up2 I 0 17 (if s.1 = true then nI s.2 else -nI 9)) 0 13 (nI (msE bt n s.2))) 0 14 (nI s.2)) 0 15 (nI (msK bt n s.2))) 0 16 (nI (msV bt n s.2))
def dst (bt : Nat → Nat) (n : Nat) (ok : Bool) (s : Bool × Nat) : Bool × Nat := if s.1 = true then s else if ok = true then (false, skp bt n (msE bt n s.2)) else (true, s.2)
def nst (bt : Nat → Nat) (n m : Nat) (s : Bool × Nat) : Bool × Nat := dst bt n (decide (msK bt n s.2 = 1 ∧ msV bt n s.2 ≤ m)) s
theorem dst_n {bt : Nat → Nat} {n : Nat} {ok : Bool} {s : Bool × Nat} (h : s.2 ≤ n) : (dst bt n ok s).2 ≤ n := by
  unfold dst
  split
  · exact h
  · split
    · exact skp_n (msE_n h)
    · exact h
theorem nst_n {bt : Nat → Nat} {n m : Nat} {s : Bool × Nat} (h : s.2 ≤ n) : (nst bt n m s).2 ≤ n := dst_n h
/-- several numbers -/
def nsts (bt : Nat → Nat) (n : Nat) : List Nat → Bool × Nat → (Bool × Nat) × List Nat
  | [], s => (s, [])
  | m :: r, s => ((nsts bt n r (nst bt n m s)).1, msV bt n s.2 :: (nsts bt n r (nst bt n m s)).2)
theorem nsts_t {bt : Nat → Nat} {n g : Nat} : ∀ ms, (nsts bt n ms (true, g)).1 = (true, g) := by
  intro ms
  induction ms with
  | nil => rfl
  | cons m r ih => exact ih
theorem num_f {bt : Nat → Nat} {n g : Nat} : ∀ (ms : List Nat) (e : Nat), numR bt n ms e = .inl g → (nsts bt n ms (false, skp bt n e)).1 = (true, g) := by
  intro ms
  induction ms with
  | nil => intro e h; cases h
  | cons m r ih =>
    intro e h
    show (nsts bt n r (nst bt n m (false, skp bt n e))).1 = (true, g)
    by_cases hc : tkK bt n (skp bt n e) = 2 ∧ tkV bt n (skp bt n e) ≤ m
    · obtain ⟨v1, e1⟩ := tm_2v hc.1
      have hk := tm_2.mp hc.1
      have hs : nst bt n m (false, skp bt n e) = (false, skp bt n (tkE bt n (skp bt n e))) := by
        show dst bt n (decide (msK bt n (skp bt n e) = 1 ∧ msV bt n (skp bt n e) ≤ m)) _ = _
        rw [decide_eq_true ⟨hk, by rw [← v1]; exact hc.2⟩, e1]
        rfl
      rw [hs]
      cases hr : numR bt n r (tkE bt n (skp bt n e)) with
      | inl f => rw [numR_f hc hr] at h; cases h; exact ih _ hr
      | inr q' => rw [numR_s hc hr] at h; cases h
    · rw [numR_no hc] at h
      cases h
      have hs : nst bt n m (false, skp bt n e) = (true, skp bt n e) := by
        show dst bt n (decide (msK bt n (skp bt n e) = 1 ∧ msV bt n (skp bt n e) ≤ m)) _ = _
        rw [decide_eq_false (fun h => hc ⟨tm_2.mpr h.1, by rw [(tm_2v (tm_2.mpr h.1)).1]; exact h.2⟩)]
        rfl
      rw [hs]
      exact nsts_t _
theorem num_s {bt : Nat → Nat} {n : Nat} : ∀ (ms : List Nat) (e : Nat) (q : List Nat × Nat), numR bt n ms e = .inr q → nsts bt n ms (false, skp bt n e) = ((false, skp bt n q.2), q.1) := by
  intro ms
  induction ms with
  | nil => intro e q h; cases h; rfl
  | cons m r ih =>
    intro e q h
    show ((nsts bt n r (nst bt n m (false, skp bt n e))).1, msV bt n (skp bt n e) :: (nsts bt n r (nst bt n m (false, skp bt n e))).2) = _
    by_cases hc : tkK bt n (skp bt n e) = 2 ∧ tkV bt n (skp bt n e) ≤ m
    · obtain ⟨v1, e1⟩ := tm_2v hc.1
      have hk := tm_2.mp hc.1
      have hs : nst bt n m (false, skp bt n e) = (false, skp bt n (tkE bt n (skp bt n e))) := by
        show dst bt n (decide (msK bt n (skp bt n e) = 1 ∧ msV bt n (skp bt n e) ≤ m)) _ = _
        rw [decide_eq_true ⟨hk, by rw [← v1]; exact hc.2⟩, e1]
        rfl
      rw [hs]
      cases hr : numR bt n r (tkE bt n (skp bt n e)) with
      | inl f => rw [numR_f hc hr] at h; cases h
      | inr q' => rw [numR_s hc hr] at h; cases h; rw [ih _ q' hr, ← v1]
    · rw [numR_no hc] at h; cases h
set_option maxRecDepth 20000 in
theorem ne9 {p : Nat} (h : p ≤ 180) : ¬ nI p = -nI 9 := by
  have : ∀ p : Nat, p ≤ 180 → ¬ nI p = -nI 9 := by decide
  exact this p h
set_option maxRecDepth 20000 in
theorem lkN81 : ∀ c : Nat, c < 256 → c ≠ 107 → c ≠ 115 → c ≠ 119 → Op.lookupswitch.offset [(107, 68), (115, 52), (119, 35)] 81 (nI c).toInt = 81 := by decide
