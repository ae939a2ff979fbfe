theorem amet_en {S : SH} {M : MI} {I : II} {J : JJ} {G : II} {P : PP} {as : List Value} {L : LV} (hM : MOk M) (hl : Nat.ble as.length (miX M) = true) (hc : as.all is1 = true) (hL : as.map some ++ List.replicate (miX M - as.length) none = L) (h : AW S M 0 L [] I J G P) : AMet S M as I J G P :=
  amet_of hM (Nat.le_of_ble_eq_true hl) (fun v hv => is1_s (List.all_eq_true.mp hc v hv)) (by rw [hL]; exact h)
theorem PE_of {r : Option Value} {I : II} {J : JJ} {G : II} {r' : Option Value} {I' : II} {J' : JJ} {G' : II} (h1 : r' = r) (h2 : I' = I) (h3 : J' = J) (h4 : G' = G) : PE r I J G r' I' J' G' := ⟨h1, h2, h3, h4⟩
theorem pe_rfl {r : Option Value} {I : II} {J : JJ} {G : II} : PE r I J G r I J G := ⟨rfl, rfl, rfl, rfl⟩
/-- the Int32 of a truth -/
def b1 (b : Bool) : Int32 := if b = true then nI 1 else nI 0
def sil (f : Nat → Int32) (s : Nat) : Int32 := f (8 + s) + f (13 + s)
theorem pe_i {x y : Int32} {I : II} {J : JJ} {G : II} (h : x = y) : PE (some (.int y)) I J G (some (.int x)) I J G := ⟨by rw [h], rfl, rfl, rfl⟩
theorem b1_t {c : Prop} [Decidable c] (h : c) : nI 1 = b1 (decide c) := by simp [b1, h]
theorem b1_f {c : Prop} [Decidable c] (h : ¬ c) : nI 0 = b1 (decide c) := by simp [b1, h]
theorem b1_nat (b : Bool) : b1 b = nI b.toNat := by cases b <;> rfl
/-! arguments that are no index; bits; sets -/
def notIn (w : Int32) (n : Nat) : Prop := ∀ j, j < n → w ≠ nI j
theorem notIn_ge {w : Int32} {n : Nat} (h : notIn w n) (hn : n < 2 ^ 31) (h0 : ¬ w < 0) : nI n ≤ w := by
  obtain ⟨j, hj, rfl⟩ := nI_of h0
  rcases Nat.lt_or_ge j n with h1 | h1
  · exact absurd rfl (h j h1)
  · exact nI_le h1 hj
theorem idxc (w : Int32) (n : Nat) : notIn w n ∨ ∃ j, j < n ∧ w = nI j := by
  by_cases h : ∃ j, j < n ∧ w = nI j
  · exact Or.inr h
  · exact Or.inl (fun j hj e => h ⟨j, hj, e⟩)
theorem sm32 : ∀ n, n < 32 → ((nI n &&& 31).toBitVec.smod 32).toNat = n := by decide +kernel
def bitN (σ s : Nat) : Nat := (σ.testBit s).toNat
theorem bitN_or (σ s : Nat) : bitN σ s = 0 ∨ bitN σ s = 1 := by
  unfold bitN
  cases σ.testBit s <;> simp
theorem bitN_1 {σ s : Nat} (h : bitN σ s = 1) : σ.testBit s = true := by
  unfold bitN at h
  cases hb : σ.testBit s with
  | true => rfl
  | false => rw [hb] at h; cases h
theorem bitN_0 {σ s : Nat} (h : bitN σ s = 0) : σ.testBit s = false := by
  unfold bitN at h
  cases hb : σ.testBit s with
  | false => rfl
  | true => rw [hb] at h; cases h
theorem bitN_n1 {σ s : Nat} (h : bitN σ s ≠ 1) : σ.testBit s = false := bitN_0 (by rcases bitN_or σ s with h1 | h1; exact h1; exact absurd h1 h)
theorem bitN_n0 {σ s : Nat} (h : bitN σ s ≠ 0) : σ.testBit s = true := bitN_1 (by rcases bitN_or σ s with h1 | h1; exact absurd h1 h; exact h1)
theorem bitNI {x y : Int32} {σ s : Nat} (hx : x = nI σ) (hy : y = nI s) (hσ : σ < 2 ^ 31) (hs : s < 32) : (x >>> (y &&& 31)) &&& nI 1 = nI (bitN σ s) := by
  subst hx; subst hy
  rw [pk_shrN hσ _ s (sm32 s hs), pk_andN (by have : σ / 2 ^ s ≤ σ := Nat.div_le_self _ _; omega) 1 (by decide)]
  congr 1
  unfold bitN
  rw [Nat.testBit_eq_decide_div_mod_eq]
  rcases Nat.mod_two_eq_zero_or_one (σ / 2 ^ s) with h | h <;> simp [h]
theorem shl1N {y : Int32} {s : Nat} (hy : y = nI s) (hs : s < 31) : nI 1 <<< (y &&& 31) = nI (2 ^ s) := by
  subst hy
  have : 2 ^ s < 2 ^ 32 := Nat.pow_lt_pow_right (by decide) (by omega)
  rw [pk_shlN _ s (sm32 s (by omega)) (by omega), Nat.one_mul]
theorem nx_or (a b : Nat) : nI a ||| nI b = nI (a ||| b) := by
  apply Int32.toBitVec_inj.1
  show BitVec.ofNat 32 a ||| BitVec.ofNat 32 b = BitVec.ofNat 32 (a ||| b)
  apply BitVec.eq_of_getLsbD_eq
  intro i hi
  simp [hi]
theorem nx_and (a b : Nat) : nI a &&& nI b = nI (a &&& b) := by
  apply Int32.toBitVec_inj.1
  show BitVec.ofNat 32 a &&& BitVec.ofNat 32 b = BitVec.ofNat 32 (a &&& b)
  apply BitVec.eq_of_getLsbD_eq
  intro i hi
  simp [hi]
theorem orN {x y : Int32} {a b : Nat} (hx : x = nI a) (hy : y = nI b) : x ||| y = nI (a ||| b) := by rw [hx, hy, nx_or]
theorem andN {x y : Int32} {a b : Nat} (hx : x = nI a) (hy : y = nI b) : x &&& y = nI (a &&& b) := by rw [hx, hy, nx_and]
/-- a without what is in b (of five bits) -/
def anN (a b : Nat) : Nat := a &&& (b ^^^ 31)
theorem anT : ∀ a, a < 32 → ∀ b, b < 32 → nI a &&& (nI b ^^^ -nI 1) = nI (anN a b) := by decide +kernel
theorem anNI {x y : Int32} {a b : Nat} (hx : x = nI a) (hy : y = nI b) (ha : a < 32) (hb : b < 32) : x &&& (y ^^^ -nI 1) = nI (anN a b) := by
  subst hx; subst hy
  exact anT a ha b hb
theorem anN_lt : ∀ a, a < 32 → ∀ b, b < 32 → anN a b < 32 := by decide +kernel
/-- the set of those below n of which q holds -/
def setN (q : Nat → Bool) : Nat → Nat
  | 0 => 0
  | n + 1 => setN q n + (if q n = true then 2 ^ n else 0)
theorem setN_lt (q : Nat → Bool) (n : Nat) : setN q n < 2 ^ n := by
  induction n with
  | zero => exact Nat.one_pos
  | succ n ih => unfold setN; rw [Nat.pow_succ]; split <;> omega
theorem setN_or {q : Nat → Bool} {n : Nat} (h : q n = true) : setN q n ||| 2 ^ n = setN q (n + 1) := by
  rw [Nat.or_two_pow_eq_add_of_lt (setN_lt q n)]
  show _ = setN q n + _
  rw [if_pos h]
theorem setN_no {q : Nat → Bool} {n : Nat} (h : ¬ q n = true) : setN q n = setN q (n + 1) := by
  show _ = setN q n + _
  rw [if_neg h, Nat.add_zero]
theorem setN_bit (q : Nat → Bool) (n j : Nat) : (setN q n).testBit j = (decide (j < n) && q j) := by
  induction n with
  | zero => simp [setN]
  | succ n ih =>
    by_cases hq : q n = true
    · rw [← setN_or hq, Nat.testBit_or, ih, Nat.testBit_two_pow]
      by_cases h1 : j < n
      · have h2 : ¬ n = j := by omega
        have h3 : j < n + 1 := by omega
        simp [h1, h2, h3]
      · by_cases h2 : n = j
        · subst h2; simp [hq]
        · have h3 : ¬ j < n + 1 := by omega
          simp [h1, h2, h3]
    · rw [← setN_no hq, ih]
      by_cases h1 : j < n
      · have h3 : j < n + 1 := by omega
        simp [h1, h3]
      · by_cases h2 : n = j
        · subst h2; simp [hq]
        · have h3 : ¬ j < n + 1 := by omega
          simp [h1, h3]
/-- the sum of x over those below n of which q holds -/
def sumC (x : Nat → Int32) (q : Nat → Bool) : Nat → Int32
  | 0 => nI 0
  | n + 1 => if q n = true then sumC x q n + x n else sumC x q n
abbrev sumS (x : Nat → Int32) (σ n : Nat) : Int32 := sumC x (fun j => σ.testBit j) n
theorem sumC_t {x : Nat → Int32} {q : Nat → Bool} {n : Nat} (h : q n = true) : sumC x q n + x n = sumC x q (n + 1) := by
  show _ = if q n = true then _ else _
  rw [if_pos h]
theorem sumC_f {x : Nat → Int32} {q : Nat → Bool} {n : Nat} (h : ¬ q n = true) : sumC x q n = sumC x q (n + 1) := by
  show _ = if q n = true then _ else _
  rw [if_neg h]
/-- that of most silver, the lowest of several -/
def rich (f : Nat → Int32) (σ : Nat) : Nat → Option Nat
  | 0 => none
  | n + 1 => if σ.testBit n = true then (match rich f σ n with
    | none => some n
    | some r => if sil f r < sil f n then some n else some r) else rich f σ n
def mostO (f : Nat → Int32) (o : Option Nat) : Int32 := match o with
  | none => -nI 1
  | some r => sil f r
theorem rich_no {f : Nat → Int32} {σ n : Nat} (h : σ.testBit n = false) : rich f σ (n + 1) = rich f σ n := by
  show (if σ.testBit n = true then _ else _) = _
  rw [if_neg (by rw [h]; decide)]
theorem rich_new {f : Nat → Int32} {σ n : Nat} (h : σ.testBit n = true) (h1 : ¬ sil f n ≤ mostO f (rich f σ n)) : rich f σ (n + 1) = some n := by
  show (if σ.testBit n = true then _ else _) = _
  rw [if_pos h]
  cases hr : rich f σ n with
  | none => rfl
  | some r =>
    rw [hr] at h1
    have h2 : sil f r < sil f n := Int32.not_le.mp h1
    simp [h2]
theorem rich_old {f : Nat → Int32} {σ n : Nat} (h : σ.testBit n = true) (h0 : nI 0 ≤ sil f n) (h1 : sil f n ≤ mostO f (rich f σ n)) : rich f σ (n + 1) = rich f σ n := by
  show (if σ.testBit n = true then _ else _) = _
  rw [if_pos h]
  cases hr : rich f σ n with
  | none =>
    rw [hr] at h1
    have h2 := Int32.le_trans h0 h1
    exact absurd (show nI 0 ≤ -nI 1 from h2) (by decide)
  | some r =>
    rw [hr] at h1
    have h2 : ¬ sil f r < sil f n := Int32.not_lt.mpr h1
    simp [h2]
theorem rich_lt {f : Nat → Int32} {σ : Nat} : ∀ {n r : Nat}, rich f σ n = some r → r < n ∧ σ.testBit r = true := by
  intro n
  induction n with
  | zero => intro r h; cases h
  | succ n ih =>
    intro r h
    unfold rich at h
    split at h
    · rename_i hb
      split at h
      · cases h; exact ⟨by omega, hb⟩
      · rename_i r' hr
        split at h
        · cases h; exact ⟨by omega, hb⟩
        · cases h; have := ih hr; exact ⟨by omega, this.2⟩
    · have := ih h; exact ⟨by omega, this.2⟩
def encO (o : Option Nat) : Int32 := match o with
  | none => -nI 9
  | some r => nI r
def tak (f g : Nat → Int32) (pir : Int32) (P σ : Nat) : Option Nat := if sumS g σ P < pir then rich f σ P else none
def lost (f : Nat → Int32) (o : Option Nat) : Int32 := match o with
  | none => nI 0
  | some r => sil f r
def wor (f g : Nat → Int32) (pir sto : Int32) (P σ : Nat) : Int32 := (sumS (sil f) σ P - lost f (tak f g pir P σ)) * (nI 10 - sto)
theorem bitN_b (σ s : Nat) : bitN σ s < 2 ^ 31 := by rcases bitN_or σ s with h | h <;> rw [h] <;> decide
theorem aw_0eqD {S : SH} {M : MI} {pc : Nat} {L : LV} {st : List Value} {I : II} {J : JJ} {G : II} {P : PP} {c : Prop} [Decidable c] {off : Int} {tgt : Nat} (hd : decode (miB M) pc = .ok (.ifCond .eq off, 3)) (ht : (pc : Int) + off = (tgt : Int)) (kt : ¬ c → AW S M tgt L st I J G P) (kf : c → AW S M (pc + 3) L st I J G P) : AW S M pc L (.int (b1 (decide c)) :: st) I J G P := by
  refine aw_if_eq hd ht (fun h => kt (fun hc => ?_)) (fun h => kf (Classical.byContradiction fun hc => h ?_))
  · rw [← b1_t hc] at h; revert h; decide
  · rw [← b1_f hc]; rfl
theorem aw_0neD {S : SH} {M : MI} {pc : Nat} {L : LV} {st : List Value} {I : II} {J : JJ} {G : II} {P : PP} {c : Prop} [Decidable c] {off : Int} {tgt : Nat} (hd : decode (miB M) pc = .ok (.ifCond .ne off, 3)) (ht : (pc : Int) + off = (tgt : Int)) (kt : c → AW S M tgt L st I J G P) (kf : ¬ c → AW S M (pc + 3) L st I J G P) : AW S M pc L (.int (b1 (decide c)) :: st) I J G P := by
  refine aw_if_ne hd ht (fun h => kt (Classical.byContradiction fun hc => h ?_)) (fun h => kf (fun hc => ?_))
  · rw [← b1_f hc]; rfl
  · rw [← b1_t hc] at h; revert h; decide
theorem tak_lt {f g : Nat → Int32} {pir : Int32} {P σ r : Nat} (h : tak f g pir P σ = some r) : r < P ∧ σ.testBit r = true := by
  unfold tak at h
  split at h
  · exact rich_lt h
  · cases h
theorem aw_forget1 {S : SH} {M : MI} {pc : Nat} {L L' : LV} {st : List Value} {I : II} {J : JJ} {G : II} {P : PP} (k : Nat) (h : L.set k none = L') (kk : AW S M pc L' st I J G P) : AW S M pc L st I J G P := by
  refine aw_forget (fun i v hi => ?_) kk
  rw [← h, List.getElem?_set] at hi
  split at hi
  · split at hi <;> simp at hi
  · exact hi
theorem divN {x y : Int32} {a b : Nat} (hx : x = nI a) (hy : y = nI b) (ha : a < 2 ^ 31) (h0 : 0 < b) (hb : b < 2 ^ 31) : x / y = nI (a / b) := by rw [hx, hy, pk_div ha h0 hb]
theorem remN {x y : Int32} {a b : Nat} (hx : x = nI a) (hy : y = nI b) (ha : a < 2 ^ 31) (h0 : 0 < b) (hb : b < 2 ^ 31) : x - x / y * y = nI (a % b) := by rw [hx, hy, pk_rem ha h0 hb]
theorem ne0N {y : Int32} {b : Nat} (hy : y = nI b) (h0 : 0 < b) (hb : b < 2 ^ 31) : ¬ y = 0 := by rw [hy]; exact nI_ne0 h0 hb
theorem maxN {x y : Int32} {a b : Nat} (hx : x = nI a) (hy : y = nI b) (ha : a < 2 ^ 31) (hb : b < 2 ^ 31) : (if x < y then y else x) = nI (max a b) := by
  subst hx; subst hy
  by_cases h : a < b
  · rw [if_pos ((nI_ltI ha hb).mpr h), Nat.max_eq_right (by omega)]
  · rw [if_neg (mt (nI_ltI ha hb).mp h), Nat.max_eq_left (by omega)]
theorem minN {x y : Int32} {a b : Nat} (hx : x = nI a) (hy : y = nI b) (ha : a < 2 ^ 31) (hb : b < 2 ^ 31) : (if y < x then y else x) = nI (min a b) := by
  subst hx; subst hy
  by_cases h : b < a
  · rw [if_pos ((nI_ltI hb ha).mpr h), Nat.min_eq_right (by omega)]
  · rw [if_neg (mt (nI_ltI hb ha).mp h), Nat.min_eq_left (by omega)]
/-- Euclid's steps that are left suffice -/
def gcJ (n a b : Nat) : Prop := (b ≤ a ∧ a * b < 2 ^ n) ∨ (1 ≤ n ∧ a * b < 2 ^ (n - 1))
theorem gcJ_0 {a b : Nat} (h : gcJ 0 a b) : b = 0 := by
  rcases h with ⟨h1, h2⟩ | ⟨h1, -⟩
  · rcases Nat.eq_zero_or_pos b with h | h
    · exact h
    · have : 1 * 1 ≤ a * b := Nat.mul_le_mul (by omega) h
      omega
  · omega
theorem gcJ_s {n a b : Nat} (h : gcJ (n + 1) a b) (hb : 0 < b) : gcJ n b (a % b) := by
  have hlt := Nat.mod_lt a hb
  refine Or.inl ⟨by omega, ?_⟩
  rcases Nat.lt_or_ge a b with hab | hab
  · rw [Nat.mod_eq_of_lt hab, Nat.mul_comm]
    rcases h with ⟨h1, -⟩ | ⟨-, h2⟩
    · omega
    · exact h2
  · have h3 : 2 * (a % b) ≤ a := by
      have h4 := Nat.div_add_mod a b
      have h5 : 1 ≤ a / b := (Nat.one_le_div_iff hb).mpr hab
      have h6 : b * 1 ≤ b * (a / b) := Nat.mul_le_mul_left b h5
      omega
    have h7 : a * b < 2 ^ (n + 1) := by
      rcases h with ⟨-, h2⟩ | ⟨-, h2⟩
      · exact h2
      · have : 2 ^ (n + 1 - 1) ≤ 2 ^ (n + 1) := Nat.pow_le_pow_right (by decide) (by omega)
        omega
    have h8 : 2 * (a % b) * b ≤ a * b := Nat.mul_le_mul_right b h3
    have h9 : b * (a % b) * 2 = 2 * (a % b) * b := by
      rw [Nat.mul_comm b, Nat.mul_assoc, Nat.mul_comm b 2, ← Nat.mul_assoc, Nat.mul_comm (a % b) 2]
    rw [Nat.pow_succ] at h7
    omega
theorem gcJ_100 {a b : Nat} (ha : a < 2 ^ 31) (hb : b < 2 ^ 31) : gcJ 100 a b := by
  refine Or.inr ⟨by decide, ?_⟩
  have h1 : a * b ≤ 2 ^ 31 * 2 ^ 31 := Nat.mul_le_mul (by omega) (by omega)
  have h2 : (2 : Nat) ^ 31 * 2 ^ 31 < 2 ^ 99 := by decide
  exact Nat.lt_of_le_of_lt h1 h2
theorem gcd_s (a b : Nat) : Nat.gcd b (a % b) = Nat.gcd a b := by
  rw [Nat.gcd_comm b, ← Nat.gcd_rec, Nat.gcd_comm]
theorem nI_n9 {r : Nat} (h : r < 2 ^ 31) : ¬ nI r = -nI 9 := fun e => by
  have h1 : (nI r).toInt = r := nI_toInt h
  rw [e] at h1
  have h2 : (-nI 9).toInt = -9 := by decide
  omega
theorem clN {x : Int32} {a : Nat} (hx : x = nI a) (ha : a < 2 ^ 31) : x.toNatClampNeg = a := by rw [hx]; exact nI_clamp ha
theorem upG_id (G : II) (k : Nat) : va_up G k (G k) = G := by
  funext q
  unfold va_up
  split
  · rename_i h; rw [h]
  · rfl
/-- the game's fraction, not yet in least terms -/
def gFr (α A β B : Nat) : Nat × Nat := if min (max α B) (max A β) ≤ max α β then (max α β, 1) else (A * B - α * β, A + B - α - β)
def frU (q : Nat × Nat) : Nat := q.1 / Nat.gcd q.1 q.2
def frL (q : Nat × Nat) : Nat := q.2 / Nat.gcd q.1 q.2
theorem gFr_s {α A β B : Nat} (h : min (max α B) (max A β) ≤ max α β) : gFr α A β B = (max α β, 1) := if_pos h
theorem gFr_n {α A β B : Nat} (h : max α β < min (max α B) (max A β)) : gFr α A β B = (A * B - α * β, A + B - α - β) := if_neg (by omega)
/-- in how many of the tenths' cases just j come home -/
def w0 (j : Nat) : Nat := if j = 0 then 1 else 0
def addW (τ : Nat) (v : Nat → Nat) (j : Nat) : Nat := if j = 0 then v 0 * τ else v j * τ + v (j - 1) * (10 - τ)
def cntB (q : Nat → Bool) : Nat → Nat
  | 0 => 0
  | n + 1 => cntB q n + (if q n = true then 1 else 0)
theorem cntB_le (q : Nat → Bool) (n : Nat) : cntB q n ≤ n := by
  induction n with
  | zero => exact Nat.le_refl _
  | succ n ih => unfold cntB; split <;> omega
theorem cntB_t {q : Nat → Bool} {n : Nat} (h : q n = true) : cntB q (n + 1) = cntB q n + 1 := by
  show cntB q n + _ = _
  rw [if_pos h]
theorem cntB_f {q : Nat → Bool} {n : Nat} (h : ¬ q n = true) : cntB q (n + 1) = cntB q n := by
  show cntB q n + _ = _
  rw [if_neg h, Nat.add_zero]
def itW (τ : Nat) : Nat → Nat → Nat
  | 0 => w0
  | c + 1 => addW τ (itW τ c)
def gs (v : Nat → Nat) (k : Nat) : Nat → Nat
  | 0 => 0
  | m + 1 => gs v k m + v (k + m)
theorem itW_le {τ : Nat} (hτ : τ ≤ 10) : ∀ c j, itW τ c j ≤ 10 ^ c := by
  intro c
  induction c with
  | zero => intro j; show w0 j ≤ 1; unfold w0; split <;> omega
  | succ c ih =>
    intro j
    show addW τ (itW τ c) j ≤ _
    have e : 10 ^ (c + 1) = 10 ^ c * τ + 10 ^ c * (10 - τ) := by rw [← Nat.mul_add, Nat.pow_succ, show τ + (10 - τ) = 10 by omega]
    rw [e]
    unfold addW
    split
    · have := Nat.mul_le_mul_right τ (ih 0); omega
    · have h1 := Nat.mul_le_mul_right τ (ih j)
      have h2 := Nat.mul_le_mul_right (10 - τ) (ih (j - 1))
      omega
theorem gs_le {τ c k m : Nat} (hc : c < 6) (hτ : τ ≤ 10) (hm : m < 7) : gs (itW τ c) k m ≤ 600000 := by
  have h1 : ∀ m, gs (itW τ c) k m ≤ m * 10 ^ c := by
    intro m
    induction m with
    | zero => exact Nat.zero_le _
    | succ m ih =>
      show gs _ k m + _ ≤ _
      have := itW_le hτ c (k + m)
      rw [Nat.succ_mul]
      omega
  have h2 := h1 m
  have h3 : 10 ^ c ≤ 10 ^ 5 := Nat.pow_le_pow_right (by decide) (by omega)
  have h4 : m * 10 ^ c ≤ 6 * 10 ^ 5 := Nat.mul_le_mul (by omega) h3
  omega
theorem encO_s {s : Nat} {t : Option Nat} {P : Nat} (hs : s < 2 ^ 31) (ht : ∀ r, t = some r → r < P) (hP : P < 2 ^ 31) : nI s = encO t ↔ t = some s := by
  cases t with
  | none => exact ⟨fun h => absurd h (nI_n9 hs), fun h => by cases h⟩
  | some r =>
    have hr := ht r rfl
    show nI s = nI r ↔ _
    rw [nI_eq hs (by omega)]
    exact ⟨fun h => by rw [h], fun h => by cases h; rfl⟩
/-- who is counted in the odds -/
def oq (σ : Nat) (t : Option Nat) (s : Nat) : Bool := σ.testBit s && decide (t ≠ some s)
def oFr (σ : Nat) (t : Option Nat) (P τ k : Nat) : Nat × Nat := (gs (itW τ (cntB (oq σ t) P)) k (6 - k), 10 ^ cntB (oq σ t) P)
