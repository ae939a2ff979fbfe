theorem ff_bge {sum : Nat → Int32} {sub : Nat → Bool} (h0 : sub 0 = true) (hp : nI 0 ≤ sum 0) (s : Nat) : -nI 9 ≤ bO (-nI 9) (ffF sum sub s) := by
  cases s with
  | zero => exact Int32.le_refl _
  | succ s =>
    obtain ⟨q, h1, h2, -⟩ := ff_ge (sum := sum) h0 s
    rw [h1]
    exact Int32.le_trans (by decide) (Int32.le_trans hp h2)
theorem an_both {m l r : Nat} (hm : m < 32) (hl : l < 32) (hr : r < 32) : anN m (l &&& r) = 0 ↔ anN m l = 0 ∧ anN m r = 0 := by
  have hlr := and_lt l hl r hr
  constructor
  · intro h
    have h1 := an_and m hm _ hlr h
    refine ⟨an_and2 m hm l hl ?_, an_and2 m hm r hr ?_⟩
    · calc m &&& l = (m &&& (l &&& r)) &&& l := by rw [h1]
        _ = m &&& (l &&& r) := by rw [Nat.and_assoc m, Nat.and_comm l r, Nat.and_assoc r, Nat.and_self]
        _ = m := h1
    · calc m &&& r = (m &&& (l &&& r)) &&& r := by rw [h1]
        _ = m &&& (l &&& r) := by rw [Nat.and_assoc m, Nat.and_assoc l, Nat.and_self]
        _ = m := h1
  · intro ⟨h1, h2⟩
    refine an_and2 m hm _ hlr ?_
    rw [← Nat.and_assoc, an_and m hm l hl h1, an_and m hm r hr h2]
theorem and_le' : ∀ a, a < 32 → ∀ b, b < 32 → a &&& b ≤ a := by decide +kernel
theorem an_le' : ∀ a, a < 32 → ∀ b, b < 32 → anN a b ≤ a := by decide +kernel
