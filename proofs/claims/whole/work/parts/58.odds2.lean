/-! both: images, game, plan, odds -/
set_option maxRecDepth 20000 in
theorem odds_T : ∀ left : Nat, left < 32 → ∀ τ : Nat, τ < 11 → ∀ k : Nat, k < 6 → upS left τ k 5 (left + 1) = gs (itW τ (cntB (fun j => left.testBit j) 5)) k (6 - k) := by decide +kernel
set_option maxRecDepth 20000 in
theorem an_bit : ∀ a : Nat, a < 32 → ∀ r : Nat, r < 5 → ∀ j : Nat, j < 5 → (anN a (2 ^ r)).testBit j = (a.testBit j && decide (r ≠ j)) := by decide +kernel
theorem upS_5 {left τ k P : Nat} (hl : left < 2 ^ P) (hP : P ≤ 5) : ∀ m, upS left τ k P m = upS left τ k 5 m := by
  intro m
  induction m with
  | zero => rfl
  | succ m ih =>
    show upS left τ k P m + wy left m k * prW left m τ P = upS left τ k 5 m + wy left m k * prW left m τ 5
    have h := prW_5 (left := left) (home := m) (τ := τ) hl (5 - P)
    rw [show P + (5 - P) = 5 by omega] at h
    rw [ih, h]
theorem cntB_ext {q : Nat → Bool} {P : Nat} : ∀ n, (∀ j, P ≤ j → j < P + n → q j = false) → cntB q (P + n) = cntB q P := by
  intro n
  induction n with
  | zero => intro _; rfl
  | succ n ih =>
    intro h
    rw [show P + (n + 1) = (P + n) + 1 by omega, cntB_f (by rw [h (P + n) (by omega) (by omega)]; decide)]
    exact ih (fun j h1 h2 => h j h1 (by omega))
theorem lft_bit {σ P : Nat} {o : Option Nat} (hσ : σ < 32) (ho : ∀ r, o = some r → r < 5) : ∀ j, j < 5 → (lftO σ o).testBit j = oq σ o j := by
  intro j hj
  unfold oq
  cases o with
  | none => simp [lftO]
  | some r =>
    show (anN σ (2 ^ r)).testBit j = _
    rw [an_bit σ hσ r (ho r rfl) j hj]
    congr 1
    simp
theorem lft_lt {σ P : Nat} {o : Option Nat} (hσ : σ < 2 ^ P) (hP : P ≤ 5) (ho : ∀ r, o = some r → r < P) : lftO σ o < 2 ^ P := by
  have h32 : 2 ^ P ≤ 32 := Nat.pow_le_pow_right (by decide) hP
  cases o with
  | none => exact hσ
  | some r =>
    have h1 : (2 : Nat) ^ r < 32 := Nat.lt_of_lt_of_le (Nat.pow_lt_pow_right (by decide) (ho r rfl)) h32
    exact Nat.lt_of_le_of_lt (an_le' σ (by omega) _ h1) hσ
theorem cnt_l {σ P : Nat} {o : Option Nat} (hσ : σ < 2 ^ P) (hP : P ≤ 5) (ho : ∀ r, o = some r → r < P) : cntB (fun j => (lftO σ o).testBit j) 5 = cntB (oq σ o) P := by
  have h32 : 2 ^ P ≤ 32 := Nat.pow_le_pow_right (by decide) hP
  rw [cntB_c 5 (lft_bit (P := P) (show σ < 32 by omega) (fun r h => by have := ho r h; omega))]
  have h := cntB_ext (q := oq σ o) (P := P) (5 - P) (fun j h1 h2 => by unfold oq; rw [tb_lt hσ h1]; rfl)
  rw [show P + (5 - P) = 5 by omega] at h
  exact h
theorem odds_eq {σ P τ k : Nat} {o : Option Nat} (hσ : σ < 2 ^ P) (hP : P ≤ 5) (hτ : τ ≤ 10) (hk : k ≤ 5) (ho : ∀ r, o = some r → r < P) :
    (upS (lftO σ o) τ k P (lftO σ o + 1), 10 ^ cntB (fun j => (lftO σ o).testBit j) 5) = oFr σ o P τ k := by
  have h32 : 2 ^ P ≤ 32 := Nat.pow_le_pow_right (by decide) hP
  have hl := lft_lt hσ hP ho
  unfold oFr
  rw [upS_5 hl hP, odds_T _ (by omega) τ (by omega) k (by omega), cnt_l hσ hP ho]
/-- what the game reckons with -/
theorem sum_nat {Wk P : Nat} {f : Nat → Int32} (hP : P ≤ 5) (h : rowOk Wk P f) (σ : Nat) : ∀ n, n ≤ P → ∃ T, T ≤ 120 * n ∧ sumS (sil f) σ n = nI T ∧ ∀ r, r < n → σ.testBit r = true → ∃ v, v ≤ T ∧ sil f r = nI v := by
  intro n
  induction n with
  | zero => intro _; exact ⟨0, Nat.le_refl _, rfl, fun r hr => absurd hr (by omega)⟩
  | succ n ih =>
    intro hn
    obtain ⟨T, h1, h2, h3⟩ := ih (by omega)
    obtain ⟨l, k, a1, a2, a3, a4⟩ := h.2 n (by omega)
    have es : sil f n = nI (l + k) := by unfold sil; rw [a3, a4, nI_add]
    by_cases hb : σ.testBit n = true
    · refine ⟨T + (l + k), by omega, ?_, fun r hr hrb => ?_⟩
      · show sumC (sil f) (fun j => σ.testBit j) (n + 1) = _
        rw [← sumC_t (q := fun j => σ.testBit j) hb]
        exact addN h2 es
      · by_cases e : r = n
        · subst e; exact ⟨l + k, by omega, es⟩
        · obtain ⟨v, b1, b2⟩ := h3 r (by omega) hrb; exact ⟨v, by omega, b2⟩
    · refine ⟨T, by omega, ?_, fun r hr hrb => ?_⟩
      · show sumC (sil f) (fun j => σ.testBit j) (n + 1) = _
        rw [← sumC_f (q := fun j => σ.testBit j) hb]; exact h2
      · by_cases e : r = n
        · subst e; exact absurd hrb hb
        · exact h3 r (by omega) hrb
theorem wor_nat {Wk P σ τ : Nat} {f g : Nat → Int32} {pir sto : Int32} (hP : P ≤ 5) (h : rowOk Wk P f) (hτ : τ ≤ 10) (hs : sto = nI τ) : ∃ α A, wor f g pir sto P σ = nI α ∧ sumS (sil f) σ P * (nI 10 - sto) = nI A ∧ α ≤ A ∧ A ≤ 6000 := by
  obtain ⟨T, h1, h2, h3⟩ := sum_nat hP h σ P (Nat.le_refl _)
  have e10 : nI 10 - sto = nI (10 - τ) := subN rfl hs hτ
  have hA : T * (10 - τ) ≤ 600 * 10 := Nat.mul_le_mul (by omega) (by omega)
  obtain ⟨v, hv, hl⟩ : ∃ v, v ≤ T ∧ lost f (tak f g pir P σ) = nI v := by
    cases ht : tak f g pir P σ with
    | none => exact ⟨0, Nat.zero_le _, rfl⟩
    | some r => obtain ⟨h4, h5⟩ := tak_lt ht; exact h3 r h4 h5
  refine ⟨(T - v) * (10 - τ), T * (10 - τ), ?_, by rw [e10]; exact mulN h2 rfl, Nat.mul_le_mul (by omega) (Nat.le_refl _), hA⟩
  unfold wor
  rw [e10]
  exact mulN (subN h2 hl hv) rfl
theorem plV_c {wo wo' : Nat → Nat → Int32} {rd rd' : Nat → Nat} {Wk : Nat} (hw : ∀ w, w < Wk → ∀ m, wo' m w = wo m w) (hr : ∀ w, w < Wk → rd' w = rd w) : ∀ n, n ≤ Wk → ∀ left, plV wo' rd' Wk n left = plV wo rd Wk n left := by
  intro n
  induction n with
  | zero => intro _ _; rfl
  | succ n ih =>
    intro hn left
    have e : (fun m => wo' m (Wk - (n + 1)) + valO (plV wo' rd' Wk n (anN left m))) = fun m => wo m (Wk - (n + 1)) + valO (plV wo rd Wk n (anN left m)) := by
      funext m
      rw [hw _ (by omega) m, ih (by omega)]
    rw [plV_s, plV_s, e, hr _ (by omega)]
theorem lfP_c {C C' : Nat → Nat → Nat} {t port Wk : Nat} (h : ∀ w, w < Wk → ∀ u, C' w u = C w u) : ∀ k, t + k ≤ Wk → lfP C' t port k = lfP C t port k := by
  intro k
  induction k with
  | zero => intro _; rfl
  | succ k ih =>
    intro hk
    show anN (lfP C' t port k) (C' (t + k) (lfP C' t port k)) = anN (lfP C t port k) (C (t + k) (lfP C t port k))
    rw [ih (by omega), h _ (by omega)]
