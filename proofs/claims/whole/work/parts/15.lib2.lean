def remP (f p : Nat → Int32) (K : Nat) : Nat → Int32 := if K = 10 then va_cpy f (va_cpy p p 18 0 162) 0 162 18 else va_cpy f p 0 (K * 18) 18
def remK (K : Nat) : Nat := if K = 10 then 10 else K + 1
theorem remK_le {K : Nat} (h : K ≤ 10) : remK K ≤ 10 := by unfold remK; split <;> omega
def begR (l h : Nat → Int32) (P : Nat) (j : Nat) : Int32 := if 8 ≤ j ∧ j < 8 + P then l (j - 8) else if 13 ≤ j ∧ j < 13 + P then h (j - 13) else nI 0
/-- the draw -/
def dN (z s t : Nat) : Nat := (7919 * z + 6151 * s + 12289 * t + 1) * (7919 * z + 6151 * s + 12289 * t + 1) % 65521 / 8 % 10
theorem dq_eq (z s t : Nat) (hz : z < 2 ^ 31) (hs : s < 2 ^ 31) (ht : t < 2 ^ 31) : (((7919 : Int64) * (nI z).toInt64) + ((6151 : Int64) * (nI s).toInt64)) + ((12289 : Int64) * (nI t).toInt64) + Int64.ofNat 1 = lN (7919 * z + 6151 * s + 12289 * t + 1) := by
  rw [nI_l hz, nI_l hs, nI_l ht]
  show lN 7919 * lN z + lN 6151 * lN s + lN 12289 * lN t + lN 1 = _
  rw [lN_mul, lN_mul, lN_mul, lN_add, lN_add, lN_add]
theorem dq_lt {z s t : Nat} (hz : z ≤ 9999) (hs : s < 5) (ht : t ≤ 12) : (7919 * z + 6151 * s + 12289 * t + 1) * (7919 * z + 6151 * s + 12289 * t + 1) < 2 ^ 62 := by
  have h : 7919 * z + 6151 * s + 12289 * t + 1 ≤ 80000000 := by omega
  have h2 := Nat.mul_le_mul h h
  have h3 : (80000000 : Nat) * 80000000 < 2 ^ 62 := by decide
  omega
/-- one ship sails -/
def sail1 (f : Nat → Int32) (shr sto : Int32) (tk : Bool) (d s : Nat) : Nat → Int32 := if tk = true then upd f (3 + s) (nI 2) else if nI d < sto then upd f (3 + s) (nI 3) else upd (upd (upd f (3 + s) (nI 1)) 1 (upd f (3 + s) (nI 1) 1 + sil (upd f (3 + s) (nI 1)) s)) 2 (upd (upd f (3 + s) (nI 1)) 1 (upd f (3 + s) (nI 1) 1 + sil (upd f (3 + s) (nI 1)) s) 2 + shr * upd (upd f (3 + s) (nI 1)) 1 (upd f (3 + s) (nI 1) 1 + sil (upd f (3 + s) (nI 1)) s) (8 + s) / nI 10)
def home1 (sto : Int32) (tk : Bool) (d : Nat) : Bool := !tk && !decide (nI d < sto)
theorem begR_l {l h : Nat → Int32} {P j : Nat} (h1 : 8 ≤ j) (h2 : j < 8 + P) : begR l h P j = l (j - 8) := if_pos ⟨h1, h2⟩
theorem begR_h {l h : Nat → Int32} {P j : Nat} (h0 : P ≤ 5) (h1 : 13 ≤ j) (h2 : j < 13 + P) : begR l h P j = h (j - 13) := by
  unfold begR
  rw [if_neg (show ¬ (8 ≤ j ∧ j < 8 + P) by omega), if_pos ⟨h1, h2⟩]
theorem begR_0 {l h : Nat → Int32} {P j : Nat} (h1 : ¬ (8 ≤ j ∧ j < 8 + P)) (h2 : ¬ (13 ≤ j ∧ j < 13 + P)) : begR l h P j = nI 0 := by
  unfold begR
  rw [if_neg h1, if_neg h2]
theorem begR_s {l h f : Nat → Int32} {s j : Nat} (hs : s < 5) (hf : f j = begR l h s j) : upd (upd (upd f (3 + s) (nI 0)) (8 + s) (l s)) (13 + s) (h s) j = begR l h (s + 1) j := by
  by_cases e1 : j = 13 + s
  · rw [begR_h (by omega) (by omega) (by omega), e1, pk_us, show 13 + s - 13 = s by omega]
  · rw [pk_un e1]
    by_cases e2 : j = 8 + s
    · rw [begR_l (by omega) (by omega), e2, pk_us, show 8 + s - 8 = s by omega]
    · rw [pk_un e2]
      by_cases e3 : j = 3 + s
      · rw [begR_0 (by omega) (by omega), e3, pk_us]
      · rw [pk_un e3, hf]
        by_cases q1 : 8 ≤ j ∧ j < 8 + s
        · rw [begR_l q1.1 q1.2, begR_l (by omega) (by omega)]
        · by_cases q2 : 13 ≤ j ∧ j < 13 + s
          · rw [begR_h (by omega) q2.1 q2.2, begR_h (by omega) (by omega) (by omega)]
          · rw [begR_0 q1 q2, begR_0 (by omega) (by omega)]
theorem notIn_gt {w : Int32} {n : Nat} (h : notIn w (n + 1)) (hn : n + 1 < 2 ^ 31) (h0 : ¬ w < 0) : nI n < w := by
  have h1 := notIn_ge h hn h0
  obtain ⟨j, hj, rfl⟩ := nI_of h0
  have h2 := (nI_leI hn hj).mp h1
  exact (nI_ltI (by omega) hj).mpr (by omega)
/-- all below n -/
def allB (q : Nat → Bool) : Nat → Bool
  | 0 => true
  | n + 1 => allB q n && q n
theorem allB_iff {q : Nat → Bool} {n : Nat} : allB q n = true ↔ ∀ j, j < n → q j = true := by
  induction n with
  | zero => exact ⟨fun _ j h => absurd h (by omega), fun _ => rfl⟩
  | succ n ih =>
    unfold allB
    rw [Bool.and_eq_true, ih]
    refine ⟨fun h j hj => ?_, fun h => ⟨fun j hj => h j (by omega), h n (by omega)⟩⟩
    rcases Nat.lt_or_ge j n with h1 | h1
    · exact h.1 j h1
    · rw [show j = n by omega]; exact h.2
/-- who may sail: bits, in port, ready -/
def sq (f rdy : Nat → Int32) (σ t s : Nat) : Bool := !σ.testBit s || (decide (f (3 + s) = nI 0) && decide (rdy s ≤ nI t))
theorem draw_x (z s t : Nat) (hz : z ≤ 9999) (hs : s < 5) (ht : t ≤ 12) (q : Int64) (hq : q = lN (7919 * z + 6151 * s + 12289 * t + 1)) :
    ((q * q - q * q / 65521 * 65521) / 8 - (q * q - q * q / 65521 * 65521) / 8 / 10 * 10).toInt32 = nI (dN z s t) := by
  have hl := dq_lt hz hs ht
  subst hq
  rw [lN_mul, show (65521 : Int64) = lN 65521 from rfl, show (8 : Int64) = lN 8 from rfl, show (10 : Int64) = lN 10 from rfl]
  rw [pk_lRem (by omega) (by decide) (by decide), pk_lDiv (by omega) (by decide) (by decide), pk_lRem (by omega) (by decide) (by decide), lN_i]
  rfl
theorem allB_s {q : Nat → Bool} {n : Nat} (h : ∀ j, j < n → q j = true) (h1 : q n = true) : ∀ j, j < n + 1 → q j = true := fun j hj => by
  rcases Nat.lt_or_ge j n with h2 | h2
  · exact h j h2
  · rw [show j = n by omega]; exact h1
theorem allB_no {q : Nat → Bool} {n j : Nat} (hj : j < n) (h : q j = false) : allB q n = false := by
  cases ha : allB q n with
  | false => rfl
  | true => rw [allB_iff.mp ha j hj] at h; cases h
theorem up2_uu {α : Type} (f : Nat → Nat → α) (a b : Nat) (v w : α) : up2 (up2 f a b v) a b w = up2 f a b w := by
  funext x y
  simp only [up2]
  by_cases h1 : x = a
  · by_cases h2 : y = b
    · simp [h1, h2]
    · simp [h1, h2]
  · simp [h1]
theorem aw_eqJ {S : SH} {M : MI} {pc : Nat} {L : LV} {st : List Value} {I : II} {J J' : JJ} {G : II} {P : PP} (h : J = J') (k : AW S M pc L st I J' G P) : AW S M pc L st I J G P := h ▸ k
theorem notIn_tab {x : Int32} {n : Nat} (h : notIn x (n + 1)) (hn : n + 1 < 2 ^ 31) : x.toInt < 0 ∨ (n : Int) < x.toInt := by
  by_cases h0 : x < 0
  · exact Or.inl (Int32.lt_iff_toInt_lt.mp h0)
  · obtain ⟨j, hj, rfl⟩ := nI_of h0
    rw [nI_toInt hj]
    refine Or.inr ?_
    rcases Nat.lt_or_ge j (n + 1) with h1 | h1
    · exact absurd rfl (h j h1)
    · omega
theorem aw_0eqB {S : SH} {M : MI} {pc : Nat} {L : LV} {st : List Value} {I : II} {J : JJ} {G : II} {P : PP} {b : Bool} {off : Int} {tgt : Nat} (hd : decode (miB M) pc = .ok (.ifCond .eq off, 3)) (ht : (pc : Int) + off = (tgt : Int)) (kt : b = false → AW S M tgt L st I J G P) (kf : b = true → AW S M (pc + 3) L st I J G P) : AW S M pc L (.int (b1 b) :: st) I J G P := by
  cases b with
  | true => exact aw_if_eq hd ht (fun h => absurd h (by decide)) (fun _ => kf rfl)
  | false => exact aw_if_eq hd ht (fun _ => kt rfl) (fun h => absurd rfl h)
theorem aw_0neB {S : SH} {M : MI} {pc : Nat} {L : LV} {st : List Value} {I : II} {J : JJ} {G : II} {P : PP} {b : Bool} {off : Int} {tgt : Nat} (hd : decode (miB M) pc = .ok (.ifCond .ne off, 3)) (ht : (pc : Int) + off = (tgt : Int)) (kt : b = true → AW S M tgt L st I J G P) (kf : b = false → AW S M (pc + 3) L st I J G P) : AW S M pc L (.int (b1 b) :: st) I J G P := by
  cases b with
  | true => exact aw_if_ne hd ht (fun _ => kt rfl) (fun h => absurd h (by decide))
  | false => exact aw_if_ne hd ht (fun h => absurd rfl h) (fun _ => kf rfl)
def sailR (f : Nat → Int32) (shr sto : Int32) (σ : Nat) (tk : Option Nat) (z t : Nat) : Nat → Nat → Int32
  | 0 => f
  | n + 1 => if σ.testBit n = true then sail1 (sailR f shr sto σ tk z t n) shr sto (decide (tk = some n)) (dN z n t) n else sailR f shr sto σ tk z t n
def hq (sto : Int32) (σ : Nat) (tk : Option Nat) (z t n : Nat) : Bool := σ.testBit n && home1 sto (decide (tk = some n)) (dN z n t)
theorem sail1_0 {f : Nat → Int32} {shr sto : Int32} {tk : Bool} {d s : Nat} : sail1 f shr sto tk d s 0 = f 0 := by
  unfold sail1
  split
  · exact pk_un (by omega)
  · split
    · exact pk_un (by omega)
    · rw [pk_un (by omega), pk_un (by omega), pk_un (by omega)]
def andA (q : Nat → Bool) (a0 : Nat) : Nat → Nat
  | 0 => a0
  | n + 1 => if q n = true then andA q a0 n &&& n else andA q a0 n
def orS (q : Nat → Bool) : Nat → Nat
  | 0 => 0
  | n + 1 => if q n = true then orS q n ||| n else orS q n
theorem andA_t {q : Nat → Bool} {a0 n : Nat} (h : q n = true) : andA q a0 (n + 1) = andA q a0 n &&& n := if_pos h
theorem andA_f {q : Nat → Bool} {a0 n : Nat} (h : ¬ q n = true) : andA q a0 (n + 1) = andA q a0 n := if_neg h
theorem orS_t {q : Nat → Bool} {n : Nat} (h : q n = true) : orS q (n + 1) = orS q n ||| n := if_pos h
theorem orS_f {q : Nat → Bool} {n : Nat} (h : ¬ q n = true) : orS q (n + 1) = orS q n := if_neg h
theorem cntB_add (q : Nat → Bool) (n : Nat) : cntB q (n + 1) = cntB q n + (q n).toNat := by
  show cntB q n + _ = _
  cases q n <;> rfl
theorem nb_add (a : Nat) (b : Bool) : nI a + b1 b = nI (a + b.toNat) := by rw [b1_nat, nI_add]
theorem upG_24 (G : II) (R : Nat → Int32) (_ : Nat) : va_up (va_up G 25 R) 24 (G 24) = va_up G 25 R := by
  funext q
  unfold va_up
  by_cases h : q = 24
  · subst h; simp
  · simp [h]
theorem notIn_self {s n : Nat} (h : n ≤ s) (hs : s < 2 ^ 31) : notIn (nI s) n := fun j hj e => by
  have := (nI_eq hs (by omega)).mp e
  omega
theorem sailR_t {f : Nat → Int32} {shr sto : Int32} {σ : Nat} {tk : Option Nat} {z t n : Nat} (h : σ.testBit n = true) : sailR f shr sto σ tk z t (n + 1) = sail1 (sailR f shr sto σ tk z t n) shr sto (decide (tk = some n)) (dN z n t) n := if_pos h
theorem sailR_f {f : Nat → Int32} {shr sto : Int32} {σ : Nat} {tk : Option Nat} {z t n : Nat} (h : σ.testBit n = false) : sailR f shr sto σ tk z t (n + 1) = sailR f shr sto σ tk z t n := if_neg (by rw [h]; decide)
