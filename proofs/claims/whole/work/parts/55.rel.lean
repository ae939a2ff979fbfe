/-! the two states side by side -/
def rowOk (Wk P : Nat) (f : Nat → Int32) : Prop := (∃ t, t ≤ Wk ∧ f 0 = nI t) ∧ ∀ s, s < P → ∃ l h, l ≤ 60 ∧ h ≤ 60 ∧ f (8 + s) = nI l ∧ f (13 + s) = nI h
def lgOk (Wk P K : Nat) (f p : Nat → Int32) : Prop := K ≤ 10 ∧ rowOk Wk P f ∧ ∀ k, k < K → rowOk Wk P (fun j => p (k * 18 + j))
def lgEq (K : Nat) (f p g : Nat → Int32) : Prop := (∀ j, j < 18 → g j = f j) ∧ g 18 = nI K ∧ ∀ j, j < 18 * K → g (19 + j) = p j
def RT (a : Int32) (f : Nat → Int32) (b : Int32) (g : Nat → Int32) : Prop := ∃ (n : Nat) (bt : Nat → Nat), n ≤ 180 ∧ a = nI n ∧ b = nI n ∧ ∀ i, i < 180 → (f i = nI (bt i) ∧ bt i < 256) ∧ g i &&& nI 255 = nI (bt i)
def RS (Wk P : Nat) (i6 i7 i8 : Int32) (g12 g13 g16 g17 : Nat → Int32) (m2 m5 m10 : Int32) (m3 m4 m8 m9 : Nat → Int32) : Prop :=
  Wk ≤ 12 ∧ P ≤ 5 ∧ (i6 = nI Wk ∧ m2 = nI Wk) ∧ (i7 = nI P ∧ m5 = nI P) ∧ m10 = i8 ∧ (∀ w, w < Wk → (∃ τ, τ ≤ 10 ∧ g12 w = nI τ) ∧ m3 w = g12 w ∧ m4 w = g13 w) ∧ ∀ s, s < P → m8 s = g16 s ∧ m9 s = g17 s
def RLg (Wk P : Nat) (k : Int32) (f p m : Nat → Int32) : Prop := ∃ K, k = nI K ∧ lgOk Wk P K f p ∧ lgEq K f p m
def RK (Wk P o : Nat) (k kp : Int32) (f p m : Nat → Int32) (mk : Int32) : Prop := ∃ b : Bool, kp = b1 b ∧ mk = b1 b ∧ (b = true → ∃ K, k = nI K ∧ lgEq K f p (fun j => m (o + j)) ∧ lgOk Wk P K f p)
def Rel (Wk P : Nat) (I : II) (J : JJ) (G : II) (Im : II) (Jm : JJ) (Gm : II) : Prop :=
  RT (I 1 1) (G 10) (Im 0 2) (Gm 1) ∧ RS Wk P (I 2 6) (I 2 7) (I 2 8) (G 12) (G 13) (G 16) (G 17) (Gm 2 0) (Gm 5 0) (Gm 10 0) (Gm 3) (Gm 4) (Gm 8) (Gm 9) ∧ J 9 2 = Jm 0 0 ∧ RLg Wk P (I 4 2) (G 24) (G 25) (Gm 11) ∧ RK Wk P 199 (I 5 2) (I 5 3) (G 26) (G 27) (Gm 11) (Gm 12 0) ∧ RK Wk P 398 (I 6 2) (I 6 3) (G 28) (G 29) (Gm 11) (Gm 12 1)
def Rl (I : II) (J : JJ) (G : II) (Im : II) (Jm : JJ) (Gm : II) : Prop := ∃ Wk P, Rel Wk P I J G Im Jm Gm
def isI (v : Value) : Prop := ∃ x : Int32, v = .int x
def isJ (v : Value) : Prop := ∃ x : Int64, v = .long x
/-- one call of both: the same answer, and the states stay side by side -/
def Both (t : Value → Prop) (Mx Mm : MI) (as : List Value) (I : II) (J : JJ) (G : II) (Im : II) (Jm : JJ) (Gm : II) : Prop :=
  ∃ (Px Pm : PP), AMet SX Mx (.ref 0 :: as) I J G Px ∧ AMet SM Mm (.ref 0 :: as) Im Jm Gm Pm ∧ (∀ r I' J' G', Px r I' J' G' → ∃ v, t v ∧ r = some v) ∧ ∀ r I' J' G' r' Im' Jm' Gm', Px r I' J' G' → Pm r' Im' Jm' Gm' → (∃ v, t v ∧ r = some v ∧ r' = some v) ∧ Rl I' J' G' Im' Jm' Gm'
theorem both_pe {Mx Mm : MI} {as : List Value} {I I' : II} {J J' : JJ} {G G' : II} {Im Im' : II} {Jm Jm' : JJ} {Gm Gm' : II} {x y : Int32} (hx : AMet SX Mx (.ref 0 :: as) I J G (PE (some (.int x)) I' J' G')) (hm : AMet SM Mm (.ref 0 :: as) Im Jm Gm (PE (some (.int y)) Im' Jm' Gm')) (hv : y = x) (hR : Rl I' J' G' Im' Jm' Gm') : Both isI Mx Mm as I J G Im Jm Gm :=
  ⟨_, _, hx, hm, fun r _ _ _ h => ⟨_, ⟨_, rfl⟩, h.1⟩, fun r I1 J1 G1 r' I2 J2 G2 h k => by
    obtain ⟨rfl, rfl, rfl, rfl⟩ := h
    obtain ⟨rfl, rfl, rfl, rfl⟩ := k
    exact ⟨⟨_, ⟨x, rfl⟩, rfl, by rw [hv]⟩, hR⟩⟩
theorem upd_c {f g : Nat → Int32} {k : Nat} {x y : Int32} {n : Nat} (h : ∀ j, j < n → g j = f j) (hx : x = y) : ∀ j, j < n → upd g k x j = upd f k y j := fun j hj => by
  unfold upd
  split
  · exact hx
  · exact h j hj
theorem upd_swap {f : Nat → Int32} {a b : Nat} {x y : Int32} (h : a ≠ b) : upd (upd f a x) b y = upd (upd f b y) a x := by
  funext j
  unfold upd
  by_cases h1 : j = a
  · by_cases h2 : j = b
    · exact absurd (h1.symm.trans h2) h
    · rw [if_neg h2, if_pos h1, if_pos h1]
  · by_cases h2 : j = b
    · rw [if_pos h2, if_neg h1, if_pos h2]
    · rw [if_neg h2, if_neg h1, if_neg h1, if_neg h2]
theorem sil_c {f g : Nat → Int32} {s : Nat} (h : ∀ j, j < 18 → g j = f j) (hs : s < 5) : sil g s = sil f s := by
  unfold sil
  rw [h _ (by omega), h _ (by omega)]
theorem rowOk_c {Wk P : Nat} {f g : Nat → Int32} (hP : P ≤ 5) (h0 : g 0 = f 0) (h : ∀ j, 8 ≤ j → j < 18 → g j = f j) (hf : rowOk Wk P f) : rowOk Wk P g := by
  obtain ⟨⟨t, h1, h2⟩, h3⟩ := hf
  refine ⟨⟨t, h1, h0.trans h2⟩, fun s hs => ?_⟩
  obtain ⟨l, k, a1, a2, a3, a4⟩ := h3 s hs
  exact ⟨l, k, a1, a2, (h _ (by omega) (by omega)).trans a3, (h _ (by omega) (by omega)).trans a4⟩
theorem rowOk_bars {Wk P s a b : Nat} {f : Nat → Int32} (hP : P ≤ 5) (hs : s < P) (ha : a ≤ 60) (hb : b ≤ 60) (h : rowOk Wk P f) : rowOk Wk P (upd (upd f (8 + s) (nI a)) (13 + s) (nI b)) := by
  obtain ⟨⟨t, h1, h2⟩, h3⟩ := h
  refine ⟨⟨t, h1, by rw [upd_ne (by omega), upd_ne (by omega)]; exact h2⟩, fun q hq => ?_⟩
  by_cases e : q = s
  · subst e
    exact ⟨a, b, ha, hb, by rw [upd_ne (by omega), upd_eq], upd_eq⟩
  · obtain ⟨l, k, a1, a2, a3, a4⟩ := h3 q hq
    exact ⟨l, k, a1, a2, by rw [upd_ne (by omega), upd_ne (by omega)]; exact a3, by rw [upd_ne (by omega), upd_ne (by omega)]; exact a4⟩
theorem sil_pos {Wk P : Nat} {f : Nat → Int32} (h : rowOk Wk P f) : ∀ s, s < P → nI 0 ≤ sil f s := fun s hs => by
  obtain ⟨l, k, a1, a2, a3, a4⟩ := h.2 s hs
  unfold sil
  rw [a3, a4, nI_add]
  exact (nI_leI (by omega) (by omega)).mpr (Nat.zero_le _)
/-- what is known, remembered -/
theorem kn_eq {K : Nat} {f p m : Nat → Int32} (hK : K ≤ 10) (h : lgEq K f p m) : (∀ j, j < 18 * remK K → knF m K (19 + j) = remP f p K j) ∧ knF m K 18 = nI (remK K) ∧ ∀ j, 199 ≤ j → knF m K j = m j := by
  obtain ⟨e1, e2, e3⟩ := h
  unfold knF remP remK knG
  by_cases h10 : K = 10
  · simp only [if_pos h10]
    refine ⟨fun j hj => ?_, rfl, fun j hj => ?_⟩
    · rw [upd_ne (by omega)]
      unfold va_cpy
      by_cases hb : 162 ≤ j
      · rw [if_pos ⟨by omega, by omega⟩, if_pos ⟨hb, by omega⟩, upd_ne (by omega), if_neg (by omega), e1 _ (by omega)]
        exact congrArg _ (by omega)
      · rw [if_neg (by omega), if_neg (by omega), upd_ne (by omega), if_pos ⟨by omega, by omega⟩, if_pos ⟨by omega, by omega⟩, ← e3 _ (by omega)]
        exact congrArg _ (by omega)
    · rw [upd_ne (by omega)]
      unfold va_cpy
      rw [if_neg (by omega), upd_ne (by omega), if_neg (by omega)]
  · simp only [if_neg h10]
    refine ⟨fun j hj => ?_, rfl, fun j hj => ?_⟩
    · rw [upd_ne (by omega)]
      unfold va_cpy
      by_cases hb : K * 18 ≤ j ∧ j < K * 18 + 18
      · rw [if_pos ⟨by omega, by omega⟩, if_pos hb, e1 _ (by omega)]
        exact congrArg _ (by omega)
      · rw [if_neg (by omega), if_neg hb, e3 j (by omega)]
    · rw [upd_ne (by omega)]
      unfold va_cpy
      rw [if_neg (by omega)]
theorem rem_ok {Wk P K : Nat} {f p : Nat → Int32} (hP : P ≤ 5) (h : lgOk Wk P K f p) : ∀ k, k < remK K → rowOk Wk P (fun j => remP f p K (k * 18 + j)) := by
  obtain ⟨hK, hf, hp⟩ := h
  intro k hk
  unfold remK at hk
  unfold remP va_cpy
  by_cases h10 : K = 10
  · simp only [if_pos h10] at hk ⊢
    by_cases h9 : k = 9
    · refine rowOk_c hP ?_ (fun j h1 h2 => ?_) hf
      · show (if 162 ≤ k * 18 + 0 ∧ k * 18 + 0 < 162 + 18 then _ else _) = _
        rw [if_pos ⟨by omega, by omega⟩]; exact congrArg _ (by omega)
      · show (if 162 ≤ k * 18 + j ∧ k * 18 + j < 162 + 18 then _ else _) = _
        rw [if_pos ⟨by omega, by omega⟩]; exact congrArg _ (by omega)
    · refine rowOk_c hP ?_ (fun j h1 h2 => ?_) (hp (k + 1) (by omega))
      · show (if 162 ≤ k * 18 + 0 ∧ k * 18 + 0 < 162 + 18 then _ else _) = _
        rw [if_neg (by omega), if_pos ⟨by omega, by omega⟩]; exact congrArg _ (by omega)
      · show (if 162 ≤ k * 18 + j ∧ k * 18 + j < 162 + 18 then _ else _) = _
        rw [if_neg (by omega), if_pos ⟨by omega, by omega⟩]; exact congrArg _ (by omega)
  · simp only [if_neg h10] at hk ⊢
    by_cases h9 : k = K
    · refine rowOk_c hP ?_ (fun j h1 h2 => ?_) hf
      · show (if K * 18 ≤ k * 18 + 0 ∧ k * 18 + 0 < K * 18 + 18 then _ else _) = _
        rw [if_pos ⟨by omega, by omega⟩]; exact congrArg _ (by omega)
      · show (if K * 18 ≤ k * 18 + j ∧ k * 18 + j < K * 18 + 18 then _ else _) = _
        rw [if_pos ⟨by omega, by omega⟩]; exact congrArg _ (by omega)
    · refine rowOk_c hP ?_ (fun j h1 h2 => ?_) (hp k (by omega))
      · show (if K * 18 ≤ k * 18 + 0 ∧ k * 18 + 0 < K * 18 + 18 then _ else _) = _
        rw [if_neg (by omega)]
      · show (if K * 18 ≤ k * 18 + j ∧ k * 18 + j < K * 18 + 18 then _ else _) = _
        rw [if_neg (by omega)]
theorem RLg_deed {Wk P K : Nat} {f p m f' m' : Nat → Int32} (hP : P ≤ 5) (hok : lgOk Wk P K f p) (he : lgEq K f p m) (hf : rowOk Wk P f') (h1 : ∀ j, j < 18 → m' j = f' j) (h2 : ∀ j, 18 ≤ j → m' j = knF m K j) : RLg Wk P (nI (remK K)) f' (remP f p K) m' := by
  obtain ⟨k1, k2, k3⟩ := kn_eq hok.1 he
  exact ⟨remK K, rfl, ⟨remK_le hok.1, hf, rem_ok hP hok⟩, ⟨h1, (h2 18 (Nat.le_refl _)).trans k2, fun j hj => (h2 _ (by omega)).trans (k1 j hj)⟩⟩
theorem RK_c {Wk P o : Nat} {k kp : Int32} {f p m m' : Nat → Int32} {mk : Int32} (h : RK Wk P o k kp f p m mk) (he : ∀ j, j < 199 → m' (o + j) = m (o + j)) : RK Wk P o k kp f p m' mk := by
  obtain ⟨b, a2, a3, a7⟩ := h
  refine ⟨b, a2, a3, fun hb => ?_⟩
  obtain ⟨K, a1, ⟨a4, a5, a6⟩, a8⟩ := a7 hb
  exact ⟨K, a1, ⟨fun j hj => (he j (by omega)).trans (a4 j hj), (he 18 (by omega)).trans a5, fun j hj => (he (19 + j) (by have := a8.1; omega)).trans (a6 j hj)⟩, a8⟩
theorem RK_deed {Wk P K o : Nat} {k kp : Int32} {f p m f1 p1 m' : Nat → Int32} {mk : Int32} (hok : lgOk Wk P K f p) (he : lgEq K f p m) (ho : 199 ≤ o) (h : RK Wk P o k kp f1 p1 m mk) (h2 : ∀ j, 18 ≤ j → m' j = knF m K j) : RK Wk P o k kp f1 p1 m' mk :=
  RK_c h (fun j hj => (h2 _ (by omega)).trans ((kn_eq hok.1 he).2.2 _ (by omega)))
theorem kn_lo {K : Nat} {f p m : Nat → Int32} (he : lgEq K f p m) : ∀ j, j < 18 → knF m K j = f j := fun j hj => (knF_lo hj).trans (he.1 j hj)
/-! alike where the rows are alike -/
theorem sumC_c {x y : Nat → Int32} {q r : Nat → Bool} : ∀ n, (∀ j, j < n → x j = y j) → (∀ j, j < n → q j = r j) → sumC x q n = sumC y r n := by
  intro n
  induction n with
  | zero => intro _ _; rfl
  | succ n ih =>
    intro h1 h2
    have hq := h2 n (by omega)
    by_cases h : q n = true
    · rw [← sumC_t h, ← sumC_t (hq ▸ h), ih (fun j hj => h1 j (by omega)) (fun j hj => h2 j (by omega)), h1 n (by omega)]
    · rw [← sumC_f h, ← sumC_f (hq ▸ h), ih (fun j hj => h1 j (by omega)) (fun j hj => h2 j (by omega))]
theorem setN_c {q r : Nat → Bool} : ∀ n, (∀ j, j < n → q j = r j) → setN q n = setN r n := by
  intro n
  induction n with
  | zero => intro _; rfl
  | succ n ih =>
    intro h
    have hq := h n (by omega)
    by_cases hn : q n = true
    · rw [← setN_or hn, ← setN_or (hq ▸ hn), ih (fun j hj => h j (by omega))]
    · rw [← setN_no hn, ← setN_no (hq ▸ hn), ih (fun j hj => h j (by omega))]
theorem rich_c {f g : Nat → Int32} {σ : Nat} (h : ∀ s, s < 5 → sil g s = sil f s) : ∀ n, n ≤ 5 → rich g σ n = rich f σ n := by
  intro n
  induction n with
  | zero => intro _; rfl
  | succ n ih =>
    intro hn
    have e := ih (by omega)
    by_cases hb : σ.testBit n = true
    · cases hr : rich f σ n with
      | none => rw [rich_first hb hr, rich_first hb (e.trans hr)]
      | some r =>
        have hr5 := (rich_lt hr).1
        by_cases hc : sil f n ≤ sil f r
        · rw [rich_keep hb hr hc, rich_keep hb (e.trans hr) (by rw [h n (by omega), h r (by omega)]; exact hc), e]
        · rw [rich_take hb hr hc, rich_take hb (e.trans hr) (by rw [h n (by omega), h r (by omega)]; exact hc)]
    · have hb' : σ.testBit n = false := by cases hz : σ.testBit n with | true => exact absurd hz hb | false => rfl
      rw [rich_no hb', rich_no hb', e]
