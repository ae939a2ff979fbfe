theorem notIn_in0 {x : Int32} {m : Nat} (h : notIn x m) (h1 : 1 ≤ m) (hm : m < 2 ^ 31) : ¬ (nI 0 ≤ x ∧ x ≤ nI (m - 1)) := fun ⟨h2, h3⟩ => by
  have h0 : ¬ x < 0 := Int32.not_lt.mpr h2
  have h4 := notIn_ge h hm h0
  have h5 := Int32.le_trans h4 h3
  have h6 := (nI_leI hm (by omega)).mp h5
  omega
theorem notIn_inW {x : Int32} {m : Nat} (h : notIn x m) (hm : m < 2 ^ 31) : ¬ (nI 0 ≤ x ∧ x ≤ nI m - nI 1) := fun ⟨h2, h3⟩ => by
  have h0 : ¬ x < 0 := Int32.not_lt.mpr h2
  cases m with
  | zero =>
    have h5 := Int32.le_trans h2 h3
    exact absurd h5 (by decide)
  | succ m =>
    rw [show nI (m + 1) - nI 1 = nI m from subN rfl rfl (by omega)] at h3
    exact notIn_in0 h (by omega) hm ⟨h2, h3⟩
theorem notIn_in1 {x : Int32} {m : Nat} (h : notIn x m) (h1 : 1 ≤ m) (hm : m < 2 ^ 31) : ¬ (nI 1 ≤ x ∧ x ≤ nI (m - 1)) := fun ⟨h2, h3⟩ => notIn_in0 h h1 hm ⟨Int32.le_trans (by decide) h2, h3⟩
theorem b1_0 {b : Bool} : b1 b = 0 ↔ b = false := by cases b <;> decide
theorem cpy_step {f : Nat → Int32} {sp dp s : Nat} (h : sp + s < dp ∨ dp + s ≤ sp + s) : upd (va_cpy f f sp dp s) (dp + s) (va_cpy f f sp dp s (sp + s)) = va_cpy f f sp dp (s + 1) := by
  funext q
  rw [pk_cpy_out (j := sp + s) (by omega)]
  by_cases e : q = dp + s
  · subst e
    rw [pk_us, pk_cpy_in (by omega) (by omega)]
    congr 1
    omega
  · rw [pk_un e]
    by_cases h1 : dp ≤ q ∧ q < dp + s
    · rw [pk_cpy_in h1.1 h1.2, pk_cpy_in h1.1 (by omega)]
    · rw [pk_cpy_out (by omega), pk_cpy_out (by omega)]
theorem cpy_0 {f : Nat → Int32} {sp dp : Nat} : va_cpy f f sp dp 0 = f := by
  funext q
  exact pk_cpy_out (by omega)
/-- what is known, in the reference's one row -/
def knG (f : Nat → Int32) : Nat → Int32 := upd (va_cpy f f 37 19 162) 18 (nI 9)
def knF (f : Nat → Int32) (K : Nat) : Nat → Int32 := if K = 10 then upd (va_cpy (knG f) (knG f) 0 (19 + 18 * 9) 18) 18 (nI 10) else upd (va_cpy f f 0 (19 + 18 * K) 18) 18 (nI (K + 1))
def q1 (rdy : Nat → Int32) (σ w s : Nat) : Bool := !σ.testBit s || decide (rdy s ≤ nI w)
theorem an_iff : ∀ a, a < 32 → ∀ b, b < 32 → (anN a b = 0 ↔ ∀ i, i < 5 → a.testBit i = true → b.testBit i = true) := by decide +kernel
theorem tb_lt {σ P i : Nat} (h : σ < 2 ^ P) (hi : P ≤ i) : σ.testBit i = false := Nat.testBit_lt_two_pow (Nat.lt_of_lt_of_le h (Nat.pow_le_pow_right (by decide) hi))
theorem allB_congr {q r : Nat → Bool} {n : Nat} (h : ∀ j, j < n → q j = r j) : allB q n = allB r n := by
  induction n with
  | zero => rfl
  | succ n ih =>
    show (allB q n && q n) = (allB r n && r n)
    rw [ih (fun j hj => h j (by omega)), h n (by omega)]
theorem can_eq {f rdy : Nat → Int32} {σ t P : Nat} (hσ : σ < 2 ^ P) (hP : P ≤ 5) : (decide (anN σ (setN (fun s => decide (f (3 + s) = nI 0)) P) = 0) && allB (q1 rdy σ t) P) = allB (sq f rdy σ t) P := by
  have hp32 : 2 ^ P ≤ 32 := Nat.pow_le_pow_right (by decide) hP
  have hpo : setN (fun s => decide (f (3 + s) = nI 0)) P < 32 := Nat.lt_of_lt_of_le (setN_lt _ _) hp32
  rw [Bool.eq_iff_iff, Bool.and_eq_true, decide_eq_true_eq, allB_iff, allB_iff, an_iff σ (by omega) _ hpo]
  constructor
  · intro ⟨h1, h2⟩ j hj
    have h3 := h2 j hj
    unfold q1 at h3
    unfold sq
    cases hb : σ.testBit j with
    | false => rfl
    | true =>
      have h4 := h1 j (by omega) hb
      rw [setN_bit] at h4
      rw [hb] at h3
      simp only [Bool.not_true, Bool.false_or] at h3 ⊢
      simp only [Bool.and_eq_true] at h4 ⊢
      exact ⟨h4.2, h3⟩
  · intro h
    refine ⟨fun i hi hb => ?_, fun j hj => ?_⟩
    · rcases Nat.lt_or_ge i P with h1 | h1
      · have h2 := h i h1
        unfold sq at h2
        rw [hb] at h2
        simp only [Bool.not_true, Bool.false_or, Bool.and_eq_true] at h2
        rw [setN_bit]
        simp only [Bool.and_eq_true, decide_eq_true_eq]
        exact ⟨h1, by simpa using h2.1⟩
      · rw [tb_lt hσ h1] at hb; cases hb
    · have h2 := h j hj
      unfold sq at h2
      unfold q1
      cases hb : σ.testBit j with
      | false => rfl
      | true =>
        rw [hb] at h2
        simp only [Bool.not_true, Bool.false_or, Bool.and_eq_true] at h2 ⊢
        exact h2.2
theorem may_eq {rdy : Nat → Int32} {σ w P : Nat} (hσ : σ < 2 ^ P) (hP : P ≤ 5) : allB (q1 rdy σ w) P = decide (anN σ (setN (fun s => decide (rdy s ≤ nI w)) P) = 0) := by
  have hp32 : 2 ^ P ≤ 32 := Nat.pow_le_pow_right (by decide) hP
  have hpo : setN (fun s => decide (rdy s ≤ nI w)) P < 32 := Nat.lt_of_lt_of_le (setN_lt _ _) hp32
  rw [Bool.eq_iff_iff, decide_eq_true_eq, allB_iff, an_iff σ (by omega) _ hpo]
  constructor
  · intro h i hi hb
    rcases Nat.lt_or_ge i P with h1 | h1
    · have h2 := h i h1
      unfold q1 at h2
      rw [hb] at h2
      rw [setN_bit]
      simp only [Bool.not_true, Bool.false_or] at h2
      simp only [Bool.and_eq_true, decide_eq_true_eq] at h2 ⊢
      exact ⟨h1, h2⟩
    · rw [tb_lt hσ h1] at hb; cases hb
  · intro h j hj
    unfold q1
    cases hb : σ.testBit j with
    | false => rfl
    | true =>
      have h4 := h j (by omega) hb
      rw [setN_bit] at h4
      simp only [Bool.and_eq_true] at h4
      simp only [Bool.not_true, Bool.false_or]
      exact h4.2
/-- the reference's draw -/
theorem draw_m (z s t : Nat) (hz : z ≤ 9999) (hs : s < 5) (ht : t ≤ 12) (q : Int64) (hq : q = lN (7919 * z + 6151 * s + 12289 * t + 1)) :
    (q * q - q * q / 65521 * 65521).toInt32 = nI ((7919 * z + 6151 * s + 12289 * t + 1) * (7919 * z + 6151 * s + 12289 * t + 1) % 65521) := by
  have hl := dq_lt hz hs ht
  subst hq
  rw [lN_mul, show (65521 : Int64) = lN 65521 from rfl, pk_lRem (by omega) (by decide) (by decide), lN_i]
theorem enc_none {o : Option Nat} {r : Int32} {P : Nat} (hr : r = encO o) (h : r = -nI 9) (hl : ∀ q, o = some q → q < P) (hP : P < 2 ^ 31) : o = none := by
  cases o with
  | none => rfl
  | some q =>
    have h1 := hl q rfl
    rw [hr] at h
    exact absurd (show nI q = -nI 9 from h) (nI_n9 (by omega))
theorem rich_first {f : Nat → Int32} {σ n : Nat} (h : σ.testBit n = true) (h1 : rich f σ n = none) : rich f σ (n + 1) = some n := by
  show (if σ.testBit n = true then _ else _) = _
  rw [if_pos h, h1]
theorem rich_keep {f : Nat → Int32} {σ n r : Nat} (h : σ.testBit n = true) (h1 : rich f σ n = some r) (h2 : sil f n ≤ sil f r) : rich f σ (n + 1) = rich f σ n := by
  show (if σ.testBit n = true then _ else _) = _
  rw [if_pos h, h1]
  have h3 : ¬ sil f r < sil f n := Int32.not_lt.mpr h2
  simp [h3]
theorem rich_take {f : Nat → Int32} {σ n r : Nat} (h : σ.testBit n = true) (h1 : rich f σ n = some r) (h2 : ¬ sil f n ≤ sil f r) : rich f σ (n + 1) = some n := by
  show (if σ.testBit n = true then _ else _) = _
  rw [if_pos h, h1]
  have h3 : sil f r < sil f n := Int32.not_le.mp h2
  simp [h3]
theorem b1_01 (b : Bool) : b1 b = 0 ∨ b1 b = 1 := by cases b; exact Or.inl rfl; exact Or.inr rfl
theorem ts_nf {x : Bool} (h : ¬ x = false) : x = true := by cases x; exact absurd rfl h; rfl
