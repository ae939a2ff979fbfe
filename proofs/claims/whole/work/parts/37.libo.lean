/-! the reference's odds -/
def prW (left home τ : Nat) : Nat → Nat
  | 0 => 1
  | s + 1 => prW left home τ s * (if left.testBit s = true then (if home.testBit s = true then 10 - τ else τ) else 1)
def wy (left home k : Nat) : Nat := if anN home left = 0 ∧ k ≤ cntB (fun j => home.testBit j) 5 then 1 else 0
def upS (left τ k P : Nat) : Nat → Nat
  | 0 => 0
  | m + 1 => upS left τ k P m + wy left m k * prW left m τ P
theorem prW_le {left home τ : Nat} (hτ : τ ≤ 10) : ∀ s, prW left home τ s ≤ 10 ^ s := by
  intro s
  induction s with
  | zero => exact Nat.le_refl _
  | succ s ih =>
    show prW left home τ s * _ ≤ _
    rw [Nat.pow_succ]
    refine Nat.mul_le_mul ih ?_
    split
    · split <;> omega
    · omega
theorem wy_le (left home k : Nat) : wy left home k ≤ 1 := by unfold wy; split <;> omega
theorem upS_le {left τ k P : Nat} (hτ : τ ≤ 10) (hP : P ≤ 5) : ∀ m, upS left τ k P m ≤ m * 100000 := by
  intro m
  induction m with
  | zero => exact Nat.le_refl _
  | succ m ih =>
    show upS left τ k P m + _ ≤ _
    have h1 := prW_le (left := left) (home := m) hτ P
    have h2 : 10 ^ P ≤ 10 ^ 5 := Nat.pow_le_pow_right (by decide) hP
    have h3 := Nat.mul_le_mul (wy_le left m k) (Nat.le_trans h1 h2)
    rw [Nat.succ_mul]
    omega
theorem prW_5 {left home τ P : Nat} (hl : left < 2 ^ P) : ∀ n, prW left home τ (P + n) = prW left home τ P := by
  intro n
  induction n with
  | zero => rfl
  | succ n ih =>
    have e : prW left home τ (P + n + 1) = prW left home τ (P + n) * (if left.testBit (P + n) = true then (if home.testBit (P + n) = true then 10 - τ else τ) else 1) := rfl
    show prW left home τ (P + n + 1) = _
    rw [e, if_neg (by rw [tb_lt hl (Nat.le_add_right P n)]; decide), Nat.mul_one, ih]
def lftO (σ : Nat) (o : Option Nat) : Nat := match o with
  | none => σ
  | some r => anN σ (2 ^ r)
