/-! items, and the whole text -/
def numR (bt : Nat → Nat) (n : Nat) : List Nat → Nat → Nat ⊕ (List Nat × Nat)
  | [], e => .inr ([], e)
  | m :: r, e => if tkK bt n (skp bt n e) = 2 ∧ tkV bt n (skp bt n e) ≤ m then (match numR bt n r (tkE bt n (skp bt n e)) with
    | .inl f => .inl f
    | .inr q => .inr (tkV bt n (skp bt n e) :: q.1, q.2)) else .inl (skp bt n e)
theorem tkK_le {bt : Nat → Nat} {n p : Nat} : tkK bt n p ≤ 4 := by
  unfold tkK
  repeat' split
  all_goals omega
theorem numR_no {bt : Nat → Nat} {n m e : Nat} {r : List Nat} (h : ¬ (tkK bt n (skp bt n e) = 2 ∧ tkV bt n (skp bt n e) ≤ m)) : numR bt n (m :: r) e = .inl (skp bt n e) := if_neg h
theorem numR_f {bt : Nat → Nat} {n m e f : Nat} {r : List Nat} (h : tkK bt n (skp bt n e) = 2 ∧ tkV bt n (skp bt n e) ≤ m) (h1 : numR bt n r (tkE bt n (skp bt n e)) = .inl f) : numR bt n (m :: r) e = .inl f := by
  show (if _ then _ else _) = _
  rw [if_pos h, h1]
theorem numR_s {bt : Nat → Nat} {n m e : Nat} {r : List Nat} {q : List Nat × Nat} (h : tkK bt n (skp bt n e) = 2 ∧ tkV bt n (skp bt n e) ≤ m) (h1 : numR bt n r (tkE bt n (skp bt n e)) = .inr q) : numR bt n (m :: r) e = .inr (tkV bt n (skp bt n e) :: q.1, q.2) := by
  show (if _ then _ else _) = _
  rw [if_pos h, h1]
def ltr (bt : Nat → Nat) (n p : Nat) : Nat := if tkK bt n p = 1 then tkV bt n p else 0
def msOf (c : Nat) : List Nat := if c = 119 then [10, 40] else if c = 115 then [60, 60, 9, 11] else [10]
def mayT (c W P : Nat) (tl : Bool) : Prop := (c = 119 ∧ W < 12) ∨ (c = 115 ∧ P < 5) ∨ (c = 107 ∧ tl = false)
theorem mayT_dec (c W P : Nat) (tl : Bool) : mayT c W P tl ∨ ¬ mayT c W P tl := Classical.em _
abbrev PD : Type := (Nat × (Nat → Nat) × (Nat → Nat)) × (Nat × (Nat → Nat) × (Nat → Nat) × (Nat → Nat) × (Nat → Nat)) × Nat × Bool
abbrev pW (D : PD) : Nat := D.1.1
abbrev pSt (D : PD) : Nat → Nat := D.1.2.1
abbrev pPi (D : PD) : Nat → Nat := D.1.2.2
abbrev pP (D : PD) : Nat := D.2.1.1
abbrev pLi (D : PD) : Nat → Nat := D.2.1.2.1
abbrev pHi (D : PD) : Nat → Nat := D.2.1.2.2.1
abbrev pGu (D : PD) : Nat → Nat := D.2.1.2.2.2.1
abbrev pRe (D : PD) : Nat → Nat := D.2.1.2.2.2.2
abbrev pSh (D : PD) : Nat := D.2.2.1
abbrev pTl (D : PD) : Bool := D.2.2.2
def un (f : Nat → Nat) (k v : Nat) : Nat → Nat := fun i => if i = k then v else f i
def addD (D : PD) (c : Nat) (vs : List Nat) : PD := if c = 119 then (((pW D) + 1, un (pSt D) (pW D) (vs.getD 0 0), un (pPi D) (pW D) (vs.getD 1 0)), D.2) else if c = 115 then (D.1, ((pP D) + 1, un (pLi D) (pP D) (vs.getD 0 0), un (pHi D) (pP D) (vs.getD 1 0), un (pGu D) (pP D) (vs.getD 2 0), un (pRe D) (pP D) (vs.getD 3 0)), D.2.2) else (D.1, D.2.1, vs.getD 0 0, true)
def pd0 : PD := ((0, fun _ => 0, fun _ => 0), (0, fun _ => 0, fun _ => 0, fun _ => 0, fun _ => 0), 2, false)
/-- what a told season keeps to -/
def pdOk (D : PD) : Prop := (pW D) ≤ 12 ∧ (pP D) ≤ 5 ∧ (pSh D) ≤ 10 ∧ (∀ i, (pSt D) i ≤ 10) ∧ (∀ i, (pPi D) i ≤ 40) ∧ (∀ i, (pLi D) i ≤ 60) ∧ (∀ i, (pHi D) i ≤ 60) ∧ (∀ i, (pGu D) i ≤ 9) ∧ ∀ i, (pRe D) i ≤ 11
theorem pd0Ok : pdOk pd0 := ⟨Nat.zero_le _, Nat.zero_le _, by decide, fun _ => Nat.zero_le _, fun _ => Nat.zero_le _, fun _ => Nat.zero_le _, fun _ => Nat.zero_le _, fun _ => Nat.zero_le _, fun _ => Nat.zero_le _⟩
theorem un_b {f : Nat → Nat} {k v m : Nat} (h : ∀ i, f i ≤ m) (hv : v ≤ m) : ∀ i, un f k v i ≤ m := fun i => by
  unfold un
  split
  · exact hv
  · exact h i
theorem addOk {D : PD} {c : Nat} {vs : List Nat} (h : pdOk D) (hm : mayT c (pW D) (pP D) (pTl D)) (hv : ∀ i, i < (msOf c).length → vs.getD i 0 ≤ (msOf c).getD i 0) : pdOk (addD D c vs) := by
  obtain ⟨h1, h2, h3, h4, h5, h6, h7, h8, h9⟩ := h
  obtain ⟨hc, hw⟩ | ⟨hc, hw⟩ | ⟨hc, hw⟩ := hm
  · subst hc
    exact ⟨hw, h2, h3, un_b h4 (hv 0 (by decide)), un_b h5 (hv 1 (by decide)), h6, h7, h8, h9⟩
  · subst hc
    exact ⟨h1, hw, h3, h4, h5, un_b h6 (hv 0 (by decide)), un_b h7 (hv 1 (by decide)), un_b h8 (hv 2 (by decide)), un_b h9 (hv 3 (by decide))⟩
  · subst hc
    exact ⟨h1, h2, hv 0 (by decide), h4, h5, h6, h7, h8, h9⟩
noncomputable def itm (bt : Nat → Nat) (n W P : Nat) (tl : Bool) (p : Nat) : Nat ⊕ (Nat × List Nat × Nat) := by
  classical
  exact if mayT (ltr bt n p) W P tl then (match numR bt n (msOf (ltr bt n p)) (tkE bt n p) with
    | .inl f => .inl f
    | .inr q => if tkK bt n (skp bt n q.2) = 3 then .inr (ltr bt n p, q.1, skp bt n (tkE bt n (skp bt n q.2))) else .inl (skp bt n q.2)) else .inl p
theorem itm_no {bt : Nat → Nat} {n W P : Nat} {tl : Bool} {p : Nat} (h : ¬ mayT (ltr bt n p) W P tl) : itm bt n W P tl p = .inl p := by
  unfold itm
  exact if_neg h
theorem itm_f {bt : Nat → Nat} {n W P : Nat} {tl : Bool} {p f : Nat} (h : mayT (ltr bt n p) W P tl) (h1 : numR bt n (msOf (ltr bt n p)) (tkE bt n p) = .inl f) : itm bt n W P tl p = .inl f := by
  unfold itm
  rw [if_pos h, h1]
theorem itm_3 {bt : Nat → Nat} {n W P : Nat} {tl : Bool} {p : Nat} {q : List Nat × Nat} (h : mayT (ltr bt n p) W P tl) (h1 : numR bt n (msOf (ltr bt n p)) (tkE bt n p) = .inr q) (h2 : ¬ tkK bt n (skp bt n q.2) = 3) : itm bt n W P tl p = .inl (skp bt n q.2) := by
  unfold itm
  rw [if_pos h, h1]
  exact if_neg h2
theorem itm_ok {bt : Nat → Nat} {n W P : Nat} {tl : Bool} {p : Nat} {q : List Nat × Nat} (h : mayT (ltr bt n p) W P tl) (h1 : numR bt n (msOf (ltr bt n p)) (tkE bt n p) = .inr q) (h2 : tkK bt n (skp bt n q.2) = 3) : itm bt n W P tl p = .inr (ltr bt n p, q.1, skp bt n (tkE bt n (skp bt n q.2))) := by
  unfold itm
  rw [if_pos h, h1]
  exact if_pos h2
noncomputable def prs (bt : Nat → Nat) (n : Nat) : Nat → Nat → PD → Nat → Nat ⊕ (Nat × PD)
  | 0, _, D, k => .inr (k, D)
  | f + 1, p, D, k => if tkK bt n p = 0 then .inr (k, D) else (match itm bt n (pW D) (pP D) (pTl D) p with
    | .inl g => .inl g
    | .inr q => prs bt n f q.2.2 (addD D q.1 q.2.1) (k + 1))
theorem prs_0 {bt : Nat → Nat} {n f p k : Nat} {D : PD} (h : tkK bt n p = 0) : prs bt n (f + 1) p D k = .inr (k, D) := if_pos h
theorem prs_f {bt : Nat → Nat} {n f p k g : Nat} {D : PD} (h : tkK bt n p ≠ 0) (h1 : itm bt n (pW D) (pP D) (pTl D) p = .inl g) : prs bt n (f + 1) p D k = .inl g := by
  show (if _ then _ else _) = _
  rw [if_neg h, h1]
theorem prs_s {bt : Nat → Nat} {n f p k : Nat} {q : Nat × List Nat × Nat} {D : PD} (h : tkK bt n p ≠ 0) (h1 : itm bt n (pW D) (pP D) (pTl D) p = .inr q) : prs bt n (f + 1) p D k = prs bt n f q.2.2 (addD D q.1 q.2.1) (k + 1) := by
  show (if _ then _ else _) = _
  rw [if_neg h, h1]
/-- how far, and how much -/
theorem numR_b {bt : Nat → Nat} {n : Nat} : ∀ (ms : List Nat) (e : Nat) (q : List Nat × Nat), e ≤ n → numR bt n ms e = .inr q → e ≤ q.2 ∧ q.2 ≤ n ∧ q.1.length = ms.length ∧ ∀ i, i < ms.length → q.1.getD i 0 ≤ ms.getD i 0 := by
  intro ms
  induction ms with
  | nil => intro e q he h; cases h; exact ⟨Nat.le_refl _, he, rfl, fun i hi => absurd hi (by simp)⟩
  | cons m r ih =>
    intro e q he h
    by_cases hc : tkK bt n (skp bt n e) = 2 ∧ tkV bt n (skp bt n e) ≤ m
    · cases hr : numR bt n r (tkE bt n (skp bt n e)) with
      | inl f => rw [numR_f hc hr] at h; cases h
      | inr q' =>
        rw [numR_s hc hr] at h
        cases h
        have h1 : skp bt n e ≤ n := skp_n he
        have h2 := tkE_n (bt := bt) h1
        obtain ⟨g1, g2, g3, g4⟩ := ih _ q' h2 hr
        have h3 := tkE_le (bt := bt) (n := n) (p := skp bt n e)
        have h4 := skp_le (bt := bt) (n := n) (e := e)
        refine ⟨by show e ≤ q'.2; omega, g2, by show (_ :: q'.1).length = (m :: r).length; simp [g3], fun i hi => ?_⟩
        cases i with
        | zero => simpa using hc.2
        | succ i => simpa using g4 i (by simpa using hi)
    · rw [numR_no hc] at h; cases h
