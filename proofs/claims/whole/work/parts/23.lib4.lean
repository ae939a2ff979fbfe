theorem chO_lt {wo : Nat → Nat → Int32} {rd : Nat → Nat} {Wk : Nat} (hr : ∀ w, rd w < 32) (n u : Nat) (hu : u < 32) : chO (plV wo rd Wk n u) < 32 := by
  cases n with
  | zero => show (0 : Nat) < 32; decide
  | succ n =>
    obtain ⟨q, h1, -, h2, -⟩ := ff_ge (sum := fun m => wo m (Wk - (n + 1)) + valO (plV wo rd Wk n (anN u m))) (sub := fun m => subB m (u &&& rd (Wk - (n + 1)))) (subB_0 (and_lt _ hu _ (hr _))) 31
    rw [plV_s, h1]
    show q.2 < 32
    omega
/-- who is left, week by week -/
def lfP (C : Nat → Nat → Nat) (t port : Nat) : Nat → Nat
  | 0 => port
  | k + 1 => anN (lfP C t port k) (C (t + k) (lfP C t port k))
theorem lfP_ok {C : Nat → Nat → Nat} {t port : Nat} (hp : port < 32) (hC : ∀ w u, u < 32 → C w u < 32) : ∀ k, lfP C t port k < 32 ∧ anN (lfP C t port k) port = 0 := by
  intro k
  induction k with
  | zero => exact ⟨hp, an_and2 _ hp _ hp (Nat.and_self _)⟩
  | succ k ih => exact ⟨anN_lt _ ih.1 _ (hC _ _ ih.1), an_port ih.1 (hC _ _ ih.1) hp ih.2⟩
theorem nI_nm1 {r : Nat} (h : r < 2 ^ 31) : ¬ nI r = -nI 1 := fun e => by
  have h1 : (nI r).toInt = r := nI_toInt h
  rw [e] at h1
  have h2 : (-nI 1).toInt = -1 := by decide
  omega
