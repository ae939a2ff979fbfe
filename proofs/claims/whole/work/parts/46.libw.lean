/-! the class's draft, as a told season -/
def DR (I G : II) (D : PD) : Prop := I 3 6 = nI (pW D) ∧ I 3 7 = nI (pP D) ∧ I 3 8 = nI (pSh D) ∧ I 3 9 = b1 (pTl D) ∧ (∀ i, i < (pW D) → G 18 i = nI ((pSt D) i) ∧ G 19 i = nI ((pPi D) i)) ∧ ∀ i, i < (pP D) → G 20 i = nI ((pLi D) i) ∧ G 21 i = nI ((pHi D) i) ∧ G 22 i = nI ((pGu D) i) ∧ G 23 i = nI ((pRe D) i)
theorem upd_un {f : Nat → Int32} {g : Nat → Nat} {k v i : Nat} (h : ∀ j, j < k → f j = nI (g j)) (hi : i < k + 1) : upd f k (nI v) i = nI (un g k v i) := by
  unfold upd un
  split
  · rfl
  · exact h i (by omega)
theorem dr_w {I I' G G' : II} {D : PD} {vs : List Nat} (h : DR I G D) (h6 : I' 3 6 = nI ((pW D) + 1)) (h7 : I' 3 7 = I 3 7) (h8 : I' 3 8 = I 3 8) (h9 : I' 3 9 = I 3 9) (g1 : G' 18 = upd (G 18) (pW D) (nI (vs.getD 0 0))) (g2 : G' 19 = upd (G 19) (pW D) (nI (vs.getD 1 0))) (g3 : G' 20 = G 20) (g4 : G' 21 = G 21) (g5 : G' 22 = G 22) (g6 : G' 23 = G 23) : DR I' G' (addD D 119 vs) := by
  obtain ⟨a1, a2, a3, a4, a5, a6⟩ := h
  refine ⟨h6, h7.trans a2, h8.trans a3, h9.trans a4, fun i hi => ⟨?_, ?_⟩, fun i hi => ?_⟩
  · rw [g1]; exact upd_un (fun j hj => (a5 j hj).1) hi
  · rw [g2]; exact upd_un (fun j hj => (a5 j hj).2) hi
  · rw [g3, g4, g5, g6]; exact a6 i hi
theorem dr_s {I I' G G' : II} {D : PD} {vs : List Nat} (h : DR I G D) (h6 : I' 3 7 = nI ((pP D) + 1)) (h7 : I' 3 6 = I 3 6) (h8 : I' 3 8 = I 3 8) (h9 : I' 3 9 = I 3 9) (g1 : G' 20 = upd (G 20) (pP D) (nI (vs.getD 0 0))) (g2 : G' 21 = upd (G 21) (pP D) (nI (vs.getD 1 0))) (g3 : G' 22 = upd (G 22) (pP D) (nI (vs.getD 2 0))) (g4 : G' 23 = upd (G 23) (pP D) (nI (vs.getD 3 0))) (g5 : G' 18 = G 18) (g6 : G' 19 = G 19) : DR I' G' (addD D 115 vs) := by
  obtain ⟨a1, a2, a3, a4, a5, a6⟩ := h
  refine ⟨h7.trans a1, h6, h8.trans a3, h9.trans a4, fun i hi => ?_, fun i hi => ⟨?_, ?_, ?_, ?_⟩⟩
  · rw [g5, g6]; exact a5 i hi
  · rw [g1]; exact upd_un (fun j hj => (a6 j hj).1) hi
  · rw [g2]; exact upd_un (fun j hj => (a6 j hj).2.1) hi
  · rw [g3]; exact upd_un (fun j hj => (a6 j hj).2.2.1) hi
  · rw [g4]; exact upd_un (fun j hj => (a6 j hj).2.2.2) hi
theorem dr_k {I I' G G' : II} {D : PD} {vs : List Nat} (h : DR I G D) (h6 : I' 3 6 = I 3 6) (h7 : I' 3 7 = I 3 7) (h8 : I' 3 8 = nI (vs.getD 0 0)) (h9 : I' 3 9 = nI 1) (g1 : G' 18 = G 18) (g2 : G' 19 = G 19) (g3 : G' 20 = G 20) (g4 : G' 21 = G 21) (g5 : G' 22 = G 22) (g6 : G' 23 = G 23) : DR I' G' (addD D 107 vs) := by
  obtain ⟨a1, a2, a3, a4, a5, a6⟩ := h
  refine ⟨h6.trans a1, h7.trans a2, h8, h9, fun i hi => ?_, fun i hi => ?_⟩
  · rw [g1, g2]; exact a5 i hi
  · rw [g3, g4, g5, g6]; exact a6 i hi
theorem ITc {I : II} {k j : Nat} {a b c d x : Int32} (hk : k ≠ 1) : up2 (up2 (up2 (up2 (up2 I 1 2 a) 1 3 b) 1 4 c) 1 5 d) k j x = up2 (up2 (up2 (up2 (up2 I k j x) 1 2 a) 1 3 b) 1 4 c) 1 5 d := by
  funext q z
  simp only [up2]
  by_cases h : q = k
  · subst h; simp [hk]
  · simp [h]
theorem tkV_b {bt : Nat → Nat} {n p : Nat} (hb : bt p < 256) : tkV bt n p < 256 := by
  unfold tkV
  have := nvC_le (bt := bt) (p := p) (spE (qD bt n) p - p)
  split
  · split
    · exact hb
    · omega
  · omega
theorem tkK_lt {bt : Nat → Nat} {n p : Nat} (h : tkK bt n p ≠ 0) : p < n := by
  apply Classical.byContradiction
  intro hc
  exact h (if_pos (by omega))
theorem tkE_lt {bt : Nat → Nat} {n p : Nat} (hn : n ≤ 180) (h : tkK bt n p = 1 ∨ tkK bt n p = 2 ∨ tkK bt n p = 3) : p < tkE bt n p := by
  have hp : p < n := tkK_lt (bt := bt) (by omega)
  unfold tkE
  rw [if_neg (by omega)]
  by_cases h1 : bt p = 59
  · rw [if_pos h1]; omega
  · rw [if_neg h1]
    by_cases h2 : isL (bt p) = true
    · rw [if_pos h2]
      exact spE_lt (by unfold qL; rw [h2, decide_eq_true hp]; rfl) (by omega)
    · rw [if_neg h2]
      by_cases h3 : isD (bt p) = true
      · rw [if_pos h3]
        exact spE_lt (by unfold qD; rw [h3, decide_eq_true hp]; rfl) (by omega)
      · exfalso
        have : tkK bt n p = 4 := (if_neg (by omega)).trans ((if_neg h1).trans ((if_neg h2).trans (if_neg h3)))
        omega
theorem ltr_c {bt : Nat → Nat} {n p c W P : Nat} {tl : Bool} (hc : c = ltr bt n p) (hm : mayT c W P tl) : tkK bt n p = 1 ∧ tkV bt n p = c := by
  unfold ltr at hc
  by_cases h : tkK bt n p = 1
  · rw [if_pos h] at hc; exact ⟨h, hc.symm⟩
  · rw [if_neg h] at hc
    subst hc
    obtain ⟨h, _⟩ | ⟨h, _⟩ | ⟨h, _⟩ := hm <;> cases h
/-- an item goes forward, and is as it may be -/
theorem itm_b {bt : Nat → Nat} {n p : Nat} {D : PD} {q : Nat × List Nat × Nat} (hn : n ≤ 180) (hD : pdOk D) (h : itm bt n (pW D) (pP D) (pTl D) p = .inr q) : p < q.2.2 ∧ q.2.2 ≤ n ∧ pdOk (addD D q.1 q.2.1) := by
  by_cases hm : mayT (ltr bt n p) (pW D) (pP D) (pTl D)
  · obtain ⟨k1, k2⟩ := ltr_c rfl hm
    have hp : p < n := tkK_lt (bt := bt) (by omega)
    have e1 := tkE_n (bt := bt) (n := n) (p := p) (by omega)
    have e2 := tkE_lt hn (Or.inl k1)
    cases hr : numR bt n (msOf (ltr bt n p)) (tkE bt n p) with
    | inl f => rw [itm_f hm hr] at h; cases h
    | inr q' =>
      obtain ⟨g1, g2, g3, g4⟩ := numR_b _ _ q' e1 hr
      by_cases h3 : tkK bt n (skp bt n q'.2) = 3
      · rw [itm_ok hm hr h3] at h
        cases h
        have f1 := skp_n (bt := bt) g2
        have f2 := skp_le (bt := bt) (n := n) (e := q'.2)
        have f3 := tkE_n (bt := bt) f1
        have f4 := tkE_le (bt := bt) (n := n) (p := skp bt n q'.2)
        have f5 := skp_le (bt := bt) (n := n) (e := tkE bt n (skp bt n q'.2))
        refine ⟨?_, skp_n f3, addOk hD hm g4⟩
        show p < skp bt n (tkE bt n (skp bt n q'.2))
        omega
      · rw [itm_3 hm hr h3] at h; cases h
  · rw [itm_no hm] at h; cases h
theorem apD {f : Nat → Int32} {i v : Nat} {x : Int32} {vs : List Nat} (hl : vs.length = i) (hf : ∀ j, j < i → f j = nI (vs.getD j 0)) (hv : x = nI v) : ∀ j, j < i + 1 → upd f i x j = nI ((vs ++ [v]).getD j 0) := by
  intro j hj
  unfold upd
  split
  · rename_i h
    subst h; subst hl
    rw [hv]
    simp [List.getD_eq_getElem?_getD]
  · rw [hf j (by omega)]
    have : j < vs.length := by omega
    simp [List.getD_eq_getElem?_getD, List.getElem?_append_left this]
set_option maxRecDepth 20000 in
theorem lkN77 : ∀ c : Nat, c < 256 → c ≠ 107 → c ≠ 115 → c ≠ 119 → Op.lookupswitch.offset [(107, 64), (115, 50), (119, 35)] 77 (nI c).toInt = 77 := by decide
theorem numR_fb {bt : Nat → Nat} {n g : Nat} : ∀ (ms : List Nat) (e : Nat), e ≤ n → numR bt n ms e = .inl g → g ≤ n := by
  intro ms
  induction ms with
  | nil => intro e _ h; cases h
  | cons m r ih =>
    intro e he h
    by_cases hc : tkK bt n (skp bt n e) = 2 ∧ tkV bt n (skp bt n e) ≤ m
    · cases hr : numR bt n r (tkE bt n (skp bt n e)) with
      | inl f => rw [numR_f hc hr] at h; cases h; exact ih _ (tkE_n (skp_n he)) hr
      | inr q' => rw [numR_s hc hr] at h; cases h
    · rw [numR_no hc] at h; cases h; exact skp_n he
theorem itm_fb {bt : Nat → Nat} {n W P : Nat} {tl : Bool} {p g : Nat} (hp : p ≤ n) (h : itm bt n W P tl p = .inl g) : g ≤ n := by
  by_cases hm : mayT (ltr bt n p) W P tl
  · cases hr : numR bt n (msOf (ltr bt n p)) (tkE bt n p) with
    | inl f => rw [itm_f hm hr] at h; cases h; exact numR_fb _ _ (tkE_n hp) hr
    | inr q' =>
      by_cases h3 : tkK bt n (skp bt n q'.2) = 3
      · rw [itm_ok hm hr h3] at h; cases h
      · rw [itm_3 hm hr h3] at h; cases h; exact skp_n (numR_b _ _ q' (tkE_n hp) hr).2.1
  · rw [itm_no hm] at h; cases h; exact hp
set_option maxRecDepth 20000 in
theorem negX {g : Nat} (h : g ≤ 180) : ¬ (0 : Int32) ≤ -nI 10 - nI g := by
  have : ∀ g : Nat, g ≤ 180 → ¬ (0 : Int32) ≤ -nI 10 - nI g := by decide
  exact this g h
theorem itNe {I : II} {k j : Nat} {a b c d : Int32} (h : k = 1 → j < 2) : up2 (up2 (up2 (up2 I 1 2 a) 1 3 b) 1 4 c) 1 5 d k j = I k j := by
  simp only [up2]
  by_cases h1 : k = 1
  · have := h h1
    simp [h1, show j ≠ 2 by omega, show j ≠ 3 by omega, show j ≠ 4 by omega, show j ≠ 5 by omega]
  · simp [h1]
theorem cpy0 {f g : Nat → Int32} {i m : Nat} (h : i < m) : va_cpy f g 0 0 m i = f i := by
  simp [va_cpy, h]
theorem begR_c {f g f' g' : Nat → Int32} {P j : Nat} (h1 : ∀ i, i < P → f i = f' i) (h2 : ∀ i, i < P → g i = g' i) : begR f g P j = begR f' g' P j := by
  unfold begR
  split
  · exact h1 _ (by omega)
  · split
    · exact h2 _ (by omega)
    · rfl
