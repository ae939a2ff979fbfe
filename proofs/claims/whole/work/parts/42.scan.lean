set_option maxRecDepth 20000 in
theorem c_isLetterAt {I : II} {J : JJ} {G : II} {bt : Nat → Nat} {n : Nat} (hbt : ∀ i, i < 180 → G 10 i = nI (bt i) ∧ bt i < 256) (hn : I 1 1 = nI n) (hn180 : n ≤ 180) {i : Nat} (hi : i ≤ 180) : AMet SX mX5_isLetterAt [.ref 1, .int (nI i)] I J G (PE (some (.int (b1 (qL bt n i)))) I J G) := by
  refine amet_en oX5_isLetterAt rfl rfl (L := [some (.ref 1), some (.int (nI i))]) rfl ?_
  refine aw_run oX5_isLetterAt sxOk 3 (pc' := 5) (L' := [some (.ref 1), some (.int (nI i))]) (st' := [.int (I 1 1), .int (nI i)]) (I' := I) (J' := J) (G' := G) rfl ?_
  refine aw_geN rfl hn (by omega) (by omega) (oX5_isLetterAt.dec rfl) (tgt := 34) rfl (fun h5 => ?_) (fun h5 => ?_)
  · refine aw_run oX5_isLetterAt sxOk 1 (pc' := 35) (L' := [some (.ref 1), some (.int (nI i))]) (st' := [.int (nI 0)]) (I' := I) (J' := J) (G' := G) rfl ?_
    exact aw_zret rfl (by first | exact Or.inl rfl | exact Or.inr rfl) (oX5_isLetterAt.dec rfl) (pe_i (by rw [show qL bt n i = false by cases h : qL bt n i with | false => rfl | true => (unfold qL isL at h; simp at h; omega)]; rfl))
  · refine aw_run oX5_isLetterAt sxOk 3 (pc' := 13) (L' := [some (.ref 1), some (.int (nI i))]) (st' := [.int (nI i), .ref 10]) (I' := I) (J' := J) (G' := G) rfl ?_
    refine aw_iaN i sxOk rfl rfl (by omega) (oX5_isLetterAt.dec rfl) ?_
    refine aw_run oX5_isLetterAt sxOk 1 (pc' := 16) (L' := [some (.ref 1), some (.int (nI i))]) (st' := [.int (nI 97), .int (G 10 i)]) (I' := I) (J' := J) (G' := G) rfl ?_
    refine aw_ltN ((hbt i (by omega)).1) rfl (by have := (hbt i (by omega)).2; omega) (by omega) (oX5_isLetterAt.dec rfl) (tgt := 34) rfl (fun h16 => ?_) (fun h16 => ?_)
    · refine aw_run oX5_isLetterAt sxOk 1 (pc' := 35) (L' := [some (.ref 1), some (.int (nI i))]) (st' := [.int (nI 0)]) (I' := I) (J' := J) (G' := G) rfl ?_
      exact aw_zret rfl (by first | exact Or.inl rfl | exact Or.inr rfl) (oX5_isLetterAt.dec rfl) (pe_i (by rw [show qL bt n i = false by cases h : qL bt n i with | false => rfl | true => (unfold qL isL at h; simp at h; omega)]; rfl))
    · refine aw_run oX5_isLetterAt sxOk 3 (pc' := 24) (L' := [some (.ref 1), some (.int (nI i))]) (st' := [.int (nI i), .ref 10]) (I' := I) (J' := J) (G' := G) rfl ?_
      refine aw_iaN i sxOk rfl rfl (by omega) (oX5_isLetterAt.dec rfl) ?_
      refine aw_run oX5_isLetterAt sxOk 1 (pc' := 27) (L' := [some (.ref 1), some (.int (nI i))]) (st' := [.int (nI 122), .int (G 10 i)]) (I' := I) (J' := J) (G' := G) rfl ?_
      refine aw_gtN ((hbt i (by omega)).1) rfl (by have := (hbt i (by omega)).2; omega) (by omega) (oX5_isLetterAt.dec rfl) (tgt := 34) rfl (fun h27 => ?_) (fun h27 => ?_)
      · refine aw_run oX5_isLetterAt sxOk 1 (pc' := 35) (L' := [some (.ref 1), some (.int (nI i))]) (st' := [.int (nI 0)]) (I' := I) (J' := J) (G' := G) rfl ?_
        exact aw_zret rfl (by first | exact Or.inl rfl | exact Or.inr rfl) (oX5_isLetterAt.dec rfl) (pe_i (by rw [show qL bt n i = false by cases h : qL bt n i with | false => rfl | true => (unfold qL isL at h; simp at h; omega)]; rfl))
      · refine aw_run oX5_isLetterAt sxOk 2 (pc' := 35) (L' := [some (.ref 1), some (.int (nI i))]) (st' := [.int (nI 1)]) (I' := I) (J' := J) (G' := G) rfl ?_
        exact aw_zret rfl (by first | exact Or.inl rfl | exact Or.inr rfl) (oX5_isLetterAt.dec rfl) (pe_i (by rw [show qL bt n i = true by unfold qL isL; simp; omega]; rfl))
set_option maxRecDepth 20000 in
theorem c_isDigitAt {I : II} {J : JJ} {G : II} {bt : Nat → Nat} {n : Nat} (hbt : ∀ i, i < 180 → G 10 i = nI (bt i) ∧ bt i < 256) (hn : I 1 1 = nI n) (hn180 : n ≤ 180) {i : Nat} (hi : i ≤ 180) : AMet SX mX5_isDigitAt [.ref 1, .int (nI i)] I J G (PE (some (.int (b1 (qD bt n i)))) I J G) := by
  refine amet_en oX5_isDigitAt rfl rfl (L := [some (.ref 1), some (.int (nI i))]) rfl ?_
  refine aw_run oX5_isDigitAt sxOk 3 (pc' := 5) (L' := [some (.ref 1), some (.int (nI i))]) (st' := [.int (I 1 1), .int (nI i)]) (I' := I) (J' := J) (G' := G) rfl ?_
  refine aw_geN rfl hn (by omega) (by omega) (oX5_isDigitAt.dec rfl) (tgt := 34) rfl (fun h5 => ?_) (fun h5 => ?_)
  · refine aw_run oX5_isDigitAt sxOk 1 (pc' := 35) (L' := [some (.ref 1), some (.int (nI i))]) (st' := [.int (nI 0)]) (I' := I) (J' := J) (G' := G) rfl ?_
    exact aw_zret rfl (by first | exact Or.inl rfl | exact Or.inr rfl) (oX5_isDigitAt.dec rfl) (pe_i (by rw [show qD bt n i = false by cases h : qD bt n i with | false => rfl | true => (unfold qD isD at h; simp at h; omega)]; rfl))
  · refine aw_run oX5_isDigitAt sxOk 3 (pc' := 13) (L' := [some (.ref 1), some (.int (nI i))]) (st' := [.int (nI i), .ref 10]) (I' := I) (J' := J) (G' := G) rfl ?_
    refine aw_iaN i sxOk rfl rfl (by omega) (oX5_isDigitAt.dec rfl) ?_
    refine aw_run oX5_isDigitAt sxOk 1 (pc' := 16) (L' := [some (.ref 1), some (.int (nI i))]) (st' := [.int (nI 48), .int (G 10 i)]) (I' := I) (J' := J) (G' := G) rfl ?_
    refine aw_ltN ((hbt i (by omega)).1) rfl (by have := (hbt i (by omega)).2; omega) (by omega) (oX5_isDigitAt.dec rfl) (tgt := 34) rfl (fun h16 => ?_) (fun h16 => ?_)
    · refine aw_run oX5_isDigitAt sxOk 1 (pc' := 35) (L' := [some (.ref 1), some (.int (nI i))]) (st' := [.int (nI 0)]) (I' := I) (J' := J) (G' := G) rfl ?_
      exact aw_zret rfl (by first | exact Or.inl rfl | exact Or.inr rfl) (oX5_isDigitAt.dec rfl) (pe_i (by rw [show qD bt n i = false by cases h : qD bt n i with | false => rfl | true => (unfold qD isD at h; simp at h; omega)]; rfl))
    · refine aw_run oX5_isDigitAt sxOk 3 (pc' := 24) (L' := [some (.ref 1), some (.int (nI i))]) (st' := [.int (nI i), .ref 10]) (I' := I) (J' := J) (G' := G) rfl ?_
      refine aw_iaN i sxOk rfl rfl (by omega) (oX5_isDigitAt.dec rfl) ?_
      refine aw_run oX5_isDigitAt sxOk 1 (pc' := 27) (L' := [some (.ref 1), some (.int (nI i))]) (st' := [.int (nI 57), .int (G 10 i)]) (I' := I) (J' := J) (G' := G) rfl ?_
      refine aw_gtN ((hbt i (by omega)).1) rfl (by have := (hbt i (by omega)).2; omega) (by omega) (oX5_isDigitAt.dec rfl) (tgt := 34) rfl (fun h27 => ?_) (fun h27 => ?_)
      · refine aw_run oX5_isDigitAt sxOk 1 (pc' := 35) (L' := [some (.ref 1), some (.int (nI i))]) (st' := [.int (nI 0)]) (I' := I) (J' := J) (G' := G) rfl ?_
        exact aw_zret rfl (by first | exact Or.inl rfl | exact Or.inr rfl) (oX5_isDigitAt.dec rfl) (pe_i (by rw [show qD bt n i = false by cases h : qD bt n i with | false => rfl | true => (unfold qD isD at h; simp at h; omega)]; rfl))
      · refine aw_run oX5_isDigitAt sxOk 2 (pc' := 35) (L' := [some (.ref 1), some (.int (nI i))]) (st' := [.int (nI 1)]) (I' := I) (J' := J) (G' := G) rfl ?_
        exact aw_zret rfl (by first | exact Or.inl rfl | exact Or.inr rfl) (oX5_isDigitAt.dec rfl) (pe_i (by rw [show qD bt n i = true by unfold qD isD; simp; omega]; rfl))
set_option maxRecDepth 20000 in
theorem c_scanLetters {I : II} {J : JJ} {G : II} {bt : Nat → Nat} {n : Nat} (hbt : ∀ i, i < 180 → G 10 i = nI (bt i) ∧ bt i < 256) (hn : I 1 1 = nI n) (hn180 : n ≤ 180) {k0 v0 : Int32} {p : Nat} (hp : p < n) : AMet SX mX5_scanLetters [.ref 1] (up2 (up2 (up2 (up2 I 1 2 k0) 1 3 (nI p)) 1 4 (nI p)) 1 5 v0) J G (PE none (up2 (up2 (up2 (up2 I 1 2 (nI 1)) 1 3 (nI p)) 1 4 (nI (spE (qL bt n) p))) 1 5 (nI (if spE (qL bt n) p = p + 1 then bt p else 0))) J G) := by
  refine amet_en oX5_scanLetters rfl rfl (L := [some (.ref 1)]) rfl ?_
  have hEn : spE (qL bt n) p ≤ n := spE_n qL_n (by omega)
  have fin : ∀ (x : Int32) (e : Nat), x = nI e → e = spE (qL bt n) p → AW SX mX5_scanLetters 40 [some (.ref 1)] [] (up2 (up2 (up2 (up2 I 1 2 (nI 1)) 1 3 (nI p)) 1 4 x) 1 5 v0) J G (PE none (up2 (up2 (up2 (up2 I 1 2 (nI 1)) 1 3 (nI p)) 1 4 (nI (spE (qL bt n) p))) 1 5 (nI (if spE (qL bt n) p = p + 1 then bt p else 0))) J G) := by
    intro x e hx hee
    refine aw_run oX5_scanLetters sxOk 7 (pc' := 51) (L' := [some (.ref 1)]) (st' := [.int ((nI p) + (nI 1)), .int x, .ref 1]) (I' := up2 (up2 (up2 (up2 I 1 2 (nI 1)) 1 3 (nI p)) 1 4 x) 1 5 v0) (J' := J) (G' := G) rfl ?_
    refine aw_neN hx (addN rfl rfl) (by omega) (by omega) (oX5_scanLetters.dec rfl) (tgt := 66) rfl (fun h51 => ?_) (fun h51 => ?_)
    · refine aw_run oX5_scanLetters sxOk 2 (pc' := 70) (L' := [some (.ref 1)]) (st' := []) (I' := up2 (up2 (up2 (up2 (up2 I 1 2 (nI 1)) 1 3 (nI p)) 1 4 x) 1 5 v0) 1 5 (nI 0)) (J' := J) (G' := G) rfl ?_
      refine aw_eqI (I' := up2 (up2 (up2 (up2 I 1 2 (nI 1)) 1 3 (nI p)) 1 4 x) 1 5 (nI 0)) (by rw [IT5]) ?_
      exact aw_vret rfl (oX5_scanLetters.dec rfl) (⟨rfl, by rw [hx, hee, show (if spE (qL bt n) p = p + 1 then bt p else 0) = 0 from if_neg (by omega)], rfl, rfl⟩)
    · refine aw_run oX5_scanLetters sxOk 4 (pc' := 62) (L' := [some (.ref 1)]) (st' := [.int (nI p), .ref 10, .ref 1]) (I' := up2 (up2 (up2 (up2 I 1 2 (nI 1)) 1 3 (nI p)) 1 4 x) 1 5 v0) (J' := J) (G' := G) rfl ?_
      refine aw_iaN p sxOk rfl rfl (by omega) (oX5_scanLetters.dec rfl) ?_
      refine aw_run oX5_scanLetters sxOk 2 (pc' := 70) (L' := [some (.ref 1)]) (st' := []) (I' := up2 (up2 (up2 (up2 (up2 I 1 2 (nI 1)) 1 3 (nI p)) 1 4 x) 1 5 v0) 1 5 (G 10 p)) (J' := J) (G' := G) rfl ?_
      refine aw_eqI (I' := up2 (up2 (up2 (up2 I 1 2 (nI 1)) 1 3 (nI p)) 1 4 x) 1 5 (G 10 p)) (by rw [IT5]) ?_
      exact aw_vret rfl (oX5_scanLetters.dec rfl) (⟨rfl, by rw [hx, hee, show (if spE (qL bt n) p = p + 1 then bt p else 0) = bt p from if_pos (by omega), (hbt p (by omega)).1], rfl, rfl⟩)
  have loop : ∀ (m e : Nat) (x : Int32), (e + m = n) → (x = nI e) → (p ≤ e) → (spE (qL bt n) e = spE (qL bt n) p) → AW SX mX5_scanLetters 5 [some (.ref 1)] [] (up2 (up2 (up2 (up2 I 1 2 (nI 1)) 1 3 (nI p)) 1 4 x) 1 5 v0) J G (PE none (up2 (up2 (up2 (up2 I 1 2 (nI 1)) 1 3 (nI p)) 1 4 (nI (spE (qL bt n) p))) 1 5 (nI (if spE (qL bt n) p = p + 1 then bt p else 0))) J G) := by
    intro m
    induction m with
    | zero =>
      intro e x hsn hx hpe hee
      refine aw_run oX5_scanLetters sxOk 4 (pc' := 13) (L' := [some (.ref 1)]) (st' := [.int (I 1 1), .int x]) (I' := up2 (up2 (up2 (up2 I 1 2 (nI 1)) 1 3 (nI p)) 1 4 x) 1 5 v0) (J' := J) (G' := G) rfl ?_
      refine aw_geN hx hn (by omega) (by omega) (oX5_scanLetters.dec rfl) (tgt := 40) rfl (fun h13 => ?_) (fun h13 => absurd h13 (by omega))
      exact fin _ e hx (by rw [← hee]; exact (spE_f (by unfold qL; rw [decide_eq_false (by omega)]; rfl)).symm)
    | succ m ih =>
      intro e x hsn hx hpe hee
      refine aw_run oX5_scanLetters sxOk 4 (pc' := 13) (L' := [some (.ref 1)]) (st' := [.int (I 1 1), .int x]) (I' := up2 (up2 (up2 (up2 I 1 2 (nI 1)) 1 3 (nI p)) 1 4 x) 1 5 v0) (J' := J) (G' := G) rfl ?_
      refine aw_geN hx hn (by omega) (by omega) (oX5_scanLetters.dec rfl) (tgt := 40) rfl (fun h13 => absurd h13 (by omega)) (fun h13 => ?_)
      refine aw_run oX5_scanLetters sxOk 3 (pc' := 21) (L' := [some (.ref 1)]) (st' := [.int x, .ref 1]) (I' := up2 (up2 (up2 (up2 I 1 2 (nI 1)) 1 3 (nI p)) 1 4 x) 1 5 v0) (J' := J) (G' := G) rfl ?_
      refine aw_eqS (st := [.int (nI e), .ref 1]) (by rw [show x = nI e from hx]) ?_
      refine aw_cV (st := []) 1 [.int (nI e)] oX5_isLetterAt k5_77 rfl rfl rfl rfl rfl rfl rfl rfl (oX5_scanLetters.dec rfl) (c_isLetterAt (I := up2 (up2 (up2 (up2 I 1 2 (nI 1)) 1 3 (nI p)) 1 4 x) 1 5 v0) (J := J) (G := G) hbt hn (by omega) (by omega)) ?_
      refine aw_eqS (st := [.int (b1 (qL bt n e))]) rfl ?_
      refine aw_0eqB (oX5_scanLetters.dec rfl) (tgt := 40) rfl (fun h24 => ?_) (fun h24 => ?_)
      · exact fin _ e hx (by rw [← hee]; exact (spE_f h24).symm)
      · refine aw_run oX5_scanLetters sxOk 7 (pc' := 5) (L' := [some (.ref 1)]) (st' := []) (I' := up2 (up2 (up2 (up2 (up2 I 1 2 (nI 1)) 1 3 (nI p)) 1 4 x) 1 5 v0) 1 4 (x + (nI 1))) (J' := J) (G' := G) rfl ?_
        refine aw_eqI (I' := up2 (up2 (up2 (up2 I 1 2 (nI 1)) 1 3 (nI p)) 1 4 (x + (nI 1))) 1 5 v0) (by rw [IT4]) ?_
        exact ih (e + 1) _ (by omega) (addN hx rfl) (by omega) (by rw [spE_t h24 (by omega)]; exact hee)
  refine aw_run oX5_scanLetters sxOk 3 (pc' := 5) (L' := [some (.ref 1)]) (st' := []) (I' := up2 (up2 (up2 (up2 (up2 I 1 2 k0) 1 3 (nI p)) 1 4 (nI p)) 1 5 v0) 1 2 (nI 1)) (J' := J) (G' := G) rfl ?_
  refine aw_eqI (I' := up2 (up2 (up2 (up2 I 1 2 (nI 1)) 1 3 (nI p)) 1 4 (nI p)) 1 5 v0) (by rw [IT2]) ?_
  exact loop (n - p) p _ (by omega) rfl (by omega) rfl
set_option maxRecDepth 20000 in
theorem c_scanNumber {I : II} {J : JJ} {G : II} {bt : Nat → Nat} {n : Nat} (hbt : ∀ i, i < 180 → G 10 i = nI (bt i) ∧ bt i < 256) (hn : I 1 1 = nI n) (hn180 : n ≤ 180) {k0 v0 : Int32} {p : Nat} (hp : p < n) : AMet SX mX5_scanNumber [.ref 1] (up2 (up2 (up2 (up2 I 1 2 k0) 1 3 (nI p)) 1 4 (nI p)) 1 5 v0) J G (PE none (up2 (up2 (up2 (up2 I 1 2 (nI (if 99 < nvC bt p (spE (qD bt n) p - p) ∨ (bt p = 48 ∧ p + 1 < spE (qD bt n) p) then 4 else 2))) 1 3 (nI p)) 1 4 (nI (spE (qD bt n) p))) 1 5 (nI (nvC bt p (spE (qD bt n) p - p)))) J G) := by
  refine amet_en oX5_scanNumber rfl rfl (L := [some (.ref 1), none]) rfl ?_
  have hEn : spE (qD bt n) p ≤ n := spE_n qD_n (by omega)
  have fin : ∀ (x y : Int32) (e : Nat), x = nI e → y = nI (nvC bt p (spE (qD bt n) p - p)) → e = spE (qD bt n) p → AW SX mX5_scanNumber 69 [some (.ref 1), none] [] (up2 (up2 (up2 (up2 I 1 2 k0) 1 3 (nI p)) 1 4 x) 1 5 y) J G (PE none (up2 (up2 (up2 (up2 I 1 2 (nI (if 99 < nvC bt p (spE (qD bt n) p - p) ∨ (bt p = 48 ∧ p + 1 < spE (qD bt n) p) then 4 else 2))) 1 3 (nI p)) 1 4 (nI (spE (qD bt n) p))) 1 5 (nI (nvC bt p (spE (qD bt n) p - p)))) J G) := by
    intro x y e hx hy hee
    have hnl : nvC bt p (spE (qD bt n) p - p) ≤ 100 := nvC_le _
    refine aw_run oX5_scanNumber sxOk 4 (pc' := 77) (L' := [some (.ref 1), none]) (st' := [.int (nI p), .ref 10]) (I' := up2 (up2 (up2 (up2 I 1 2 k0) 1 3 (nI p)) 1 4 x) 1 5 y) (J' := J) (G' := G) rfl ?_
    refine aw_iaN p sxOk rfl rfl (by omega) (oX5_scanNumber.dec rfl) ?_
    refine aw_run oX5_scanNumber sxOk 1 (pc' := 80) (L' := [some (.ref 1), none]) (st' := [.int (nI 48), .int (G 10 p)]) (I' := up2 (up2 (up2 (up2 I 1 2 k0) 1 3 (nI p)) 1 4 x) 1 5 y) (J' := J) (G' := G) rfl ?_
    refine aw_neN ((hbt p (by omega)).1) rfl (by have := (hbt p (by omega)).2; omega) (by omega) (oX5_scanNumber.dec rfl) (tgt := 100) rfl (fun h80 => ?_) (fun h80 => ?_)
    · refine aw_run oX5_scanNumber sxOk 6 (pc' := 109) (L' := [some (.ref 1), some (.int (nI 0))]) (st' := [.int (nI 99), .int y, .ref 1]) (I' := up2 (up2 (up2 (up2 I 1 2 k0) 1 3 (nI p)) 1 4 x) 1 5 y) (J' := J) (G' := G) rfl ?_
      refine aw_gtN hy rfl (by omega) (by omega) (oX5_scanNumber.dec rfl) (tgt := 116) rfl (fun h109 => ?_) (fun h109 => ?_)
      · refine aw_run oX5_scanNumber sxOk 3 (pc' := 124) (L' := [some (.ref 1), some (.int (nI 0))]) (st' := []) (I' := up2 (up2 (up2 (up2 (up2 I 1 2 k0) 1 3 (nI p)) 1 4 x) 1 5 y) 1 2 (nI 4)) (J' := J) (G' := G) rfl ?_
        refine aw_eqI (I' := up2 (up2 (up2 (up2 I 1 2 (nI 4)) 1 3 (nI p)) 1 4 x) 1 5 y) (by rw [IT2]) ?_
        exact aw_vret rfl (oX5_scanNumber.dec rfl) (⟨rfl, by rw [hx, hy, hee, show (if 99 < nvC bt p (spE (qD bt n) p - p) ∨ (bt p = 48 ∧ p + 1 < spE (qD bt n) p) then 4 else 2) = 4 from if_pos (by omega)], rfl, rfl⟩)
      · refine aw_run oX5_scanNumber sxOk 1 (pc' := 113) (L' := [some (.ref 1), some (.int (nI 0))]) (st' := [.int (nI 0), .ref 1]) (I' := up2 (up2 (up2 (up2 I 1 2 k0) 1 3 (nI p)) 1 4 x) 1 5 y) (J' := J) (G' := G) rfl ?_
        refine aw_0eqN rfl (by omega) (oX5_scanNumber.dec rfl) (tgt := 120) rfl (fun h113 => ?_) (fun h113 => absurd h113 (by omega))
        refine aw_run oX5_scanNumber sxOk 2 (pc' := 124) (L' := [some (.ref 1), some (.int (nI 0))]) (st' := []) (I' := up2 (up2 (up2 (up2 (up2 I 1 2 k0) 1 3 (nI p)) 1 4 x) 1 5 y) 1 2 (nI 2)) (J' := J) (G' := G) rfl ?_
        refine aw_eqI (I' := up2 (up2 (up2 (up2 I 1 2 (nI 2)) 1 3 (nI p)) 1 4 x) 1 5 y) (by rw [IT2]) ?_
        exact aw_vret rfl (oX5_scanNumber.dec rfl) (⟨rfl, by rw [hx, hy, hee, show (if 99 < nvC bt p (spE (qD bt n) p - p) ∨ (bt p = 48 ∧ p + 1 < spE (qD bt n) p) then 4 else 2) = 2 from if_neg (by omega)], rfl, rfl⟩)
    · refine aw_run oX5_scanNumber sxOk 6 (pc' := 93) (L' := [some (.ref 1), none]) (st' := [.int ((nI p) + (nI 1)), .int x]) (I' := up2 (up2 (up2 (up2 I 1 2 k0) 1 3 (nI p)) 1 4 x) 1 5 y) (J' := J) (G' := G) rfl ?_
      refine aw_leN hx (addN rfl rfl) (by omega) (by omega) (oX5_scanNumber.dec rfl) (tgt := 100) rfl (fun h93 => ?_) (fun h93 => ?_)
      · refine aw_run oX5_scanNumber sxOk 6 (pc' := 109) (L' := [some (.ref 1), some (.int (nI 0))]) (st' := [.int (nI 99), .int y, .ref 1]) (I' := up2 (up2 (up2 (up2 I 1 2 k0) 1 3 (nI p)) 1 4 x) 1 5 y) (J' := J) (G' := G) rfl ?_
        refine aw_gtN hy rfl (by omega) (by omega) (oX5_scanNumber.dec rfl) (tgt := 116) rfl (fun h109 => ?_) (fun h109 => ?_)
        · refine aw_run oX5_scanNumber sxOk 3 (pc' := 124) (L' := [some (.ref 1), some (.int (nI 0))]) (st' := []) (I' := up2 (up2 (up2 (up2 (up2 I 1 2 k0) 1 3 (nI p)) 1 4 x) 1 5 y) 1 2 (nI 4)) (J' := J) (G' := G) rfl ?_
          refine aw_eqI (I' := up2 (up2 (up2 (up2 I 1 2 (nI 4)) 1 3 (nI p)) 1 4 x) 1 5 y) (by rw [IT2]) ?_
          exact aw_vret rfl (oX5_scanNumber.dec rfl) (⟨rfl, by rw [hx, hy, hee, show (if 99 < nvC bt p (spE (qD bt n) p - p) ∨ (bt p = 48 ∧ p + 1 < spE (qD bt n) p) then 4 else 2) = 4 from if_pos (by omega)], rfl, rfl⟩)
        · refine aw_run oX5_scanNumber sxOk 1 (pc' := 113) (L' := [some (.ref 1), some (.int (nI 0))]) (st' := [.int (nI 0), .ref 1]) (I' := up2 (up2 (up2 (up2 I 1 2 k0) 1 3 (nI p)) 1 4 x) 1 5 y) (J' := J) (G' := G) rfl ?_
          refine aw_0eqN rfl (by omega) (oX5_scanNumber.dec rfl) (tgt := 120) rfl (fun h113 => ?_) (fun h113 => absurd h113 (by omega))
          refine aw_run oX5_scanNumber sxOk 2 (pc' := 124) (L' := [some (.ref 1), some (.int (nI 0))]) (st' := []) (I' := up2 (up2 (up2 (up2 (up2 I 1 2 k0) 1 3 (nI p)) 1 4 x) 1 5 y) 1 2 (nI 2)) (J' := J) (G' := G) rfl ?_
          refine aw_eqI (I' := up2 (up2 (up2 (up2 I 1 2 (nI 2)) 1 3 (nI p)) 1 4 x) 1 5 y) (by rw [IT2]) ?_
          exact aw_vret rfl (oX5_scanNumber.dec rfl) (⟨rfl, by rw [hx, hy, hee, show (if 99 < nvC bt p (spE (qD bt n) p - p) ∨ (bt p = 48 ∧ p + 1 < spE (qD bt n) p) then 4 else 2) = 2 from if_neg (by omega)], rfl, rfl⟩)
      · refine aw_run oX5_scanNumber sxOk 7 (pc' := 109) (L' := [some (.ref 1), some (.int (nI 1))]) (st' := [.int (nI 99), .int y, .ref 1]) (I' := up2 (up2 (up2 (up2 I 1 2 k0) 1 3 (nI p)) 1 4 x) 1 5 y) (J' := J) (G' := G) rfl ?_
        refine aw_gtN hy rfl (by omega) (by omega) (oX5_scanNumber.dec rfl) (tgt := 116) rfl (fun h109 => ?_) (fun h109 => ?_)
        · refine aw_run oX5_scanNumber sxOk 3 (pc' := 124) (L' := [some (.ref 1), some (.int (nI 1))]) (st' := []) (I' := up2 (up2 (up2 (up2 (up2 I 1 2 k0) 1 3 (nI p)) 1 4 x) 1 5 y) 1 2 (nI 4)) (J' := J) (G' := G) rfl ?_
          refine aw_eqI (I' := up2 (up2 (up2 (up2 I 1 2 (nI 4)) 1 3 (nI p)) 1 4 x) 1 5 y) (by rw [IT2]) ?_
          exact aw_vret rfl (oX5_scanNumber.dec rfl) (⟨rfl, by rw [hx, hy, hee, show (if 99 < nvC bt p (spE (qD bt n) p - p) ∨ (bt p = 48 ∧ p + 1 < spE (qD bt n) p) then 4 else 2) = 4 from if_pos (by omega)], rfl, rfl⟩)
        · refine aw_run oX5_scanNumber sxOk 1 (pc' := 113) (L' := [some (.ref 1), some (.int (nI 1))]) (st' := [.int (nI 1), .ref 1]) (I' := up2 (up2 (up2 (up2 I 1 2 k0) 1 3 (nI p)) 1 4 x) 1 5 y) (J' := J) (G' := G) rfl ?_
          refine aw_0eqN rfl (by omega) (oX5_scanNumber.dec rfl) (tgt := 120) rfl (fun h113 => absurd h113 (by omega)) (fun h113 => ?_)
          refine aw_run oX5_scanNumber sxOk 3 (pc' := 124) (L' := [some (.ref 1), some (.int (nI 1))]) (st' := []) (I' := up2 (up2 (up2 (up2 (up2 I 1 2 k0) 1 3 (nI p)) 1 4 x) 1 5 y) 1 2 (nI 4)) (J' := J) (G' := G) rfl ?_
          refine aw_eqI (I' := up2 (up2 (up2 (up2 I 1 2 (nI 4)) 1 3 (nI p)) 1 4 x) 1 5 y) (by rw [IT2]) ?_
          exact aw_vret rfl (oX5_scanNumber.dec rfl) (⟨rfl, by rw [hx, hy, hee, show (if 99 < nvC bt p (spE (qD bt n) p - p) ∨ (bt p = 48 ∧ p + 1 < spE (qD bt n) p) then 4 else 2) = 4 from if_pos (by omega)], rfl, rfl⟩)
  have loop : ∀ (m e : Nat) (x y : Int32), (e + m = n) → (x = nI e) → (p ≤ e) → (spE (qD bt n) e = spE (qD bt n) p) → (y = nI (nvC bt p (e - p))) → AW SX mX5_scanNumber 5 [some (.ref 1), none] [] (up2 (up2 (up2 (up2 I 1 2 k0) 1 3 (nI p)) 1 4 x) 1 5 y) J G (PE none (up2 (up2 (up2 (up2 I 1 2 (nI (if 99 < nvC bt p (spE (qD bt n) p - p) ∨ (bt p = 48 ∧ p + 1 < spE (qD bt n) p) then 4 else 2))) 1 3 (nI p)) 1 4 (nI (spE (qD bt n) p))) 1 5 (nI (nvC bt p (spE (qD bt n) p - p)))) J G) := by
    intro m
    induction m with
    | zero =>
      intro e x y hsn hx hpe hee hy
      have hnl : nvC bt p (e - p) ≤ 100 := nvC_le _
      refine aw_run oX5_scanNumber sxOk 4 (pc' := 13) (L' := [some (.ref 1), none]) (st' := [.int (I 1 1), .int x]) (I' := up2 (up2 (up2 (up2 I 1 2 k0) 1 3 (nI p)) 1 4 x) 1 5 y) (J' := J) (G' := G) rfl ?_
      refine aw_geN hx hn (by omega) (by omega) (oX5_scanNumber.dec rfl) (tgt := 69) rfl (fun h13 => ?_) (fun h13 => absurd h13 (by omega))
      have he2 : e = spE (qD bt n) p := by rw [← hee]; exact (spE_f (by unfold qD; rw [decide_eq_false (by omega)]; rfl)).symm
      exact fin _ _ e hx (by rw [← he2]; exact hy) he2
    | succ m ih =>
      intro e x y hsn hx hpe hee hy
      have hnl : nvC bt p (e - p) ≤ 100 := nvC_le _
      have hbe : ∀ _ : e < n, bt e < 256 := fun h => (hbt e (by omega)).2
      refine aw_run oX5_scanNumber sxOk 4 (pc' := 13) (L' := [some (.ref 1), none]) (st' := [.int (I 1 1), .int x]) (I' := up2 (up2 (up2 (up2 I 1 2 k0) 1 3 (nI p)) 1 4 x) 1 5 y) (J' := J) (G' := G) rfl ?_
      refine aw_geN hx hn (by omega) (by omega) (oX5_scanNumber.dec rfl) (tgt := 69) rfl (fun h13 => absurd h13 (by omega)) (fun h13 => ?_)
      refine aw_run oX5_scanNumber sxOk 3 (pc' := 21) (L' := [some (.ref 1), none]) (st' := [.int x, .ref 1]) (I' := up2 (up2 (up2 (up2 I 1 2 k0) 1 3 (nI p)) 1 4 x) 1 5 y) (J' := J) (G' := G) rfl ?_
      refine aw_eqS (st := [.int (nI e), .ref 1]) (by rw [show x = nI e from hx]) ?_
      refine aw_cV (st := []) 1 [.int (nI e)] oX5_isDigitAt k5_83 rfl rfl rfl rfl rfl rfl rfl rfl (oX5_scanNumber.dec rfl) (c_isDigitAt (I := up2 (up2 (up2 (up2 I 1 2 k0) 1 3 (nI p)) 1 4 x) 1 5 y) (J := J) (G := G) hbt hn (by omega) (by omega)) ?_
      refine aw_eqS (st := [.int (b1 (qD bt n e))]) rfl ?_
      refine aw_0eqB (oX5_scanNumber.dec rfl) (tgt := 69) rfl (fun h24 => ?_) (fun h24 => ?_)
      · have he2 : e = spE (qD bt n) p := by rw [← hee]; exact (spE_f h24).symm
        exact fin _ _ e hx (by rw [← he2]; exact hy) he2
      · have hd9 : 48 ≤ bt e ∧ bt e ≤ 57 := by unfold qD isD at h24; simp at h24; exact h24.2
        refine aw_run oX5_scanNumber sxOk 9 (pc' := 43) (L' := [some (.ref 1), none]) (st' := [.int x, .ref 10, .int (y * (nI 10)), .ref 1]) (I' := up2 (up2 (up2 (up2 I 1 2 k0) 1 3 (nI p)) 1 4 x) 1 5 y) (J' := J) (G' := G) rfl ?_
        refine aw_iaN e sxOk rfl hx (by omega) (oX5_scanNumber.dec rfl) ?_
        refine aw_run oX5_scanNumber sxOk 4 (pc' := 50) (L' := [some (.ref 1), none]) (st' := [.int (nI 100), .int (((y * (nI 10)) + (G 10 e)) - (nI 48)), .ref 1]) (I' := up2 (up2 (up2 (up2 I 1 2 k0) 1 3 (nI p)) 1 4 x) 1 5 y) (J' := J) (G' := G) rfl ?_
        refine aw_min n5_89 (by decide) (Nat.le_of_ble_eq_true rfl) (oX5_scanNumber.dec rfl) ?_
        refine aw_run oX5_scanNumber sxOk 8 (pc' := 5) (L' := [some (.ref 1), none]) (st' := []) (I' := up2 (up2 (up2 (up2 (up2 (up2 I 1 2 k0) 1 3 (nI p)) 1 4 x) 1 5 y) 1 5 (if nI 100 < ((y * (nI 10)) + (G 10 e)) - (nI 48) then nI 100 else ((y * (nI 10)) + (G 10 e)) - (nI 48))) 1 4 (x + (nI 1))) (J' := J) (G' := G) rfl ?_
        refine aw_eqI (I' := up2 (up2 (up2 (up2 I 1 2 k0) 1 3 (nI p)) 1 4 (x + (nI 1))) 1 5 (if nI 100 < ((y * (nI 10)) + (G 10 e)) - (nI 48) then nI 100 else ((y * (nI 10)) + (G 10 e)) - (nI 48))) (by rw [IT5, IT4]) ?_
        exact ih (e + 1) _ _ (by omega) (addN hx rfl) (by omega) (by rw [spE_t h24 (by omega)]; exact hee) (by rw [show e + 1 - p = (e - p) + 1 by omega]; exact (minN (subN (addN (mulN hy rfl) ((hbt e (by omega)).1)) rfl (by omega)) rfl (by omega) (by omega)).trans (by rw [show nvC bt p (e - p + 1) = min (nvC bt p (e - p) * 10 + (bt (p + (e - p)) - 48)) 100 from rfl, show p + (e - p) = e by omega]; congr 1; omega))
  refine aw_run oX5_scanNumber sxOk 3 (pc' := 5) (L' := [some (.ref 1), none]) (st' := []) (I' := up2 (up2 (up2 (up2 (up2 I 1 2 k0) 1 3 (nI p)) 1 4 (nI p)) 1 5 v0) 1 5 (nI 0)) (J' := J) (G' := G) rfl ?_
  refine aw_eqI (I' := up2 (up2 (up2 (up2 I 1 2 k0) 1 3 (nI p)) 1 4 (nI p)) 1 5 (nI 0)) (by rw [IT5]) ?_
  exact loop (n - p) p _ _ (by omega) rfl (by omega) rfl (by rw [Nat.sub_self]; rfl)
set_option maxRecDepth 20000 in
theorem c_scan {I : II} {J : JJ} {G : II} {bt : Nat → Nat} {n : Nat} (hbt : ∀ i, i < 180 → G 10 i = nI (bt i) ∧ bt i < 256) (hn : I 1 1 = nI n) (hn180 : n ≤ 180) {k0 p0 v0 : Int32} {e0 : Nat} (he0 : e0 ≤ n) : AMet SX mX5_scan [.ref 1] (up2 (up2 (up2 (up2 I 1 2 k0) 1 3 p0) 1 4 (nI e0)) 1 5 v0) J G (fun r I' J' G' => r = none ∧ J' = J ∧ G' = G ∧ ∃ v1, I' = up2 (up2 (up2 (up2 I 1 2 (nI (tkK bt n (skp bt n e0)))) 1 3 (nI (skp bt n e0))) 1 4 (nI (tkE bt n (skp bt n e0)))) 1 5 v1 ∧ (tkK bt n (skp bt n e0) = 1 ∨ tkK bt n (skp bt n e0) = 2 → v1 = nI (tkV bt n (skp bt n e0)))) := by
  refine amet_en oX5_scan rfl rfl (L := [some (.ref 1)]) rfl ?_
  have hPn : skp bt n e0 ≤ n := skp_n (by omega)
  have fin : ∀ (x : Int32) (p : Nat), x = nI p → p = skp bt n e0 → AW SX mX5_scan 38 [some (.ref 1)] [] (up2 (up2 (up2 (up2 I 1 2 k0) 1 3 p0) 1 4 x) 1 5 v0) J G (fun r I' J' G' => r = none ∧ J' = J ∧ G' = G ∧ ∃ v1, I' = up2 (up2 (up2 (up2 I 1 2 (nI (tkK bt n (skp bt n e0)))) 1 3 (nI (skp bt n e0))) 1 4 (nI (tkE bt n (skp bt n e0)))) 1 5 v1 ∧ (tkK bt n (skp bt n e0) = 1 ∨ tkK bt n (skp bt n e0) = 2 → v1 = nI (tkV bt n (skp bt n e0)))) := by
    intro x p hx hpp
    subst hx
    refine aw_run oX5_scan sxOk 8 (pc' := 54) (L' := [some (.ref 1)]) (st' := [.int (I 1 1), .int (nI p)]) (I' := up2 (up2 (up2 (up2 (up2 I 1 2 k0) 1 3 p0) 1 4 (nI p)) 1 5 v0) 1 3 (nI p)) (J' := J) (G' := G) rfl ?_
    refine aw_eqI (I' := up2 (up2 (up2 (up2 I 1 2 k0) 1 3 (nI p)) 1 4 (nI p)) 1 5 v0) (by rw [IT3]) ?_
    refine aw_ltN rfl hn (by omega) (by omega) (oX5_scan.dec rfl) (tgt := 65) rfl (fun h54 => ?_) (fun h54 => ?_)
    · refine aw_run oX5_scan sxOk 4 (pc' := 73) (L' := [some (.ref 1)]) (st' := [.int (nI p), .ref 10]) (I' := up2 (up2 (up2 (up2 I 1 2 k0) 1 3 (nI p)) 1 4 (nI p)) 1 5 v0) (J' := J) (G' := G) rfl ?_
      refine aw_iaN p sxOk rfl rfl (by omega) (oX5_scan.dec rfl) ?_
      refine aw_run oX5_scan sxOk 1 (pc' := 76) (L' := [some (.ref 1)]) (st' := [.int (nI 59), .int (G 10 p)]) (I' := up2 (up2 (up2 (up2 I 1 2 k0) 1 3 (nI p)) 1 4 (nI p)) 1 5 v0) (J' := J) (G' := G) rfl ?_
      refine aw_neN ((hbt p (by omega)).1) rfl (by have := (hbt p (by omega)).2; omega) (by omega) (oX5_scan.dec rfl) (tgt := 97) rfl (fun h76 => ?_) (fun h76 => ?_)
      · refine aw_run oX5_scan sxOk 3 (pc' := 102) (L' := [some (.ref 1)]) (st' := [.int (nI p), .ref 1]) (I' := up2 (up2 (up2 (up2 I 1 2 k0) 1 3 (nI p)) 1 4 (nI p)) 1 5 v0) (J' := J) (G' := G) rfl ?_
        refine aw_cV (st := []) 1 [.int (nI p)] oX5_isLetterAt k5_77 rfl rfl rfl rfl rfl rfl rfl rfl (oX5_scan.dec rfl) (c_isLetterAt (I := up2 (up2 (up2 (up2 I 1 2 k0) 1 3 (nI p)) 1 4 (nI p)) 1 5 v0) (J := J) (G := G) hbt hn (by omega) (by omega)) ?_
        refine aw_eqS (st := [.int (b1 (qL bt n p))]) rfl ?_
        refine aw_0eqB (oX5_scan.dec rfl) (tgt := 115) rfl (fun h105 => ?_) (fun h105 => ?_)
        · have hl0 : ¬ isL (bt p) = true := fun h => by unfold qL at h105; rw [decide_eq_true (show p < n by omega), h] at h105; cases h105
          refine aw_run oX5_scan sxOk 3 (pc' := 120) (L' := [some (.ref 1)]) (st' := [.int (nI p), .ref 1]) (I' := up2 (up2 (up2 (up2 I 1 2 k0) 1 3 (nI p)) 1 4 (nI p)) 1 5 v0) (J' := J) (G' := G) rfl ?_
          refine aw_cV (st := []) 1 [.int (nI p)] oX5_isDigitAt k5_83 rfl rfl rfl rfl rfl rfl rfl rfl (oX5_scan.dec rfl) (c_isDigitAt (I := up2 (up2 (up2 (up2 I 1 2 k0) 1 3 (nI p)) 1 4 (nI p)) 1 5 v0) (J := J) (G := G) hbt hn (by omega) (by omega)) ?_
          refine aw_eqS (st := [.int (b1 (qD bt n p))]) rfl ?_
          refine aw_0eqB (oX5_scan.dec rfl) (tgt := 133) rfl (fun h123 => ?_) (fun h123 => ?_)
          · have hd0 : ¬ isD (bt p) = true := fun h => by unfold qD at h123; rw [decide_eq_true (show p < n by omega), h] at h123; cases h123
            refine aw_run oX5_scan sxOk 3 (pc' := 138) (L' := [some (.ref 1)]) (st' := []) (I' := up2 (up2 (up2 (up2 (up2 I 1 2 k0) 1 3 (nI p)) 1 4 (nI p)) 1 5 v0) 1 2 (nI 4)) (J' := J) (G' := G) rfl ?_
            refine aw_eqI (I' := up2 (up2 (up2 (up2 I 1 2 (nI 4)) 1 3 (nI p)) 1 4 (nI p)) 1 5 v0) (by rw [IT2]) ?_
            exact aw_vret rfl (oX5_scan.dec rfl) (⟨rfl, rfl, rfl, v0, by rw [← hpp, show tkK bt n p = 4 from (if_neg (by omega)).trans ((if_neg h76).trans ((if_neg hl0).trans (if_neg hd0))), show tkE bt n p = p from (if_neg (by omega)).trans ((if_neg h76).trans ((if_neg hl0).trans (if_neg hd0)))], fun h => by rw [← hpp, show tkK bt n p = 4 from (if_neg (by omega)).trans ((if_neg h76).trans ((if_neg hl0).trans (if_neg hd0)))] at h; omega⟩)
          · have hd1 : isD (bt p) = true := by unfold qD at h123; simp at h123; exact h123.2
            refine aw_run oX5_scan sxOk 1 (pc' := 127) (L' := [some (.ref 1)]) (st' := [.ref 1]) (I' := up2 (up2 (up2 (up2 I 1 2 k0) 1 3 (nI p)) 1 4 (nI p)) 1 5 v0) (J' := J) (G' := G) rfl ?_
            refine aw_cV (st := []) 1 [] oX5_scanNumber k5_86 rfl rfl rfl rfl rfl rfl rfl rfl (oX5_scan.dec rfl) (c_scanNumber (I := I) (J := J) (G := G) (k0 := k0) (v0 := v0) (p := p) hbt hn (by omega) (by omega)) ?_
            refine aw_eqS (st := []) rfl ?_
            refine aw_run oX5_scan sxOk 1 (pc' := 138) (L' := [some (.ref 1)]) (st' := []) (I' := up2 (up2 (up2 (up2 I 1 2 (nI (if 99 < nvC bt p (spE (qD bt n) p - p) ∨ (bt p = 48 ∧ p + 1 < spE (qD bt n) p) then 4 else 2))) 1 3 (nI p)) 1 4 (nI (spE (qD bt n) p))) 1 5 (nI (nvC bt p (spE (qD bt n) p - p)))) (J' := J) (G' := G) rfl ?_
            exact aw_vret rfl (oX5_scan.dec rfl) (⟨rfl, rfl, rfl, _, by rw [← hpp, show tkK bt n p = _ from (if_neg (by omega)).trans ((if_neg h76).trans ((if_neg hl0).trans (if_pos hd1))), show tkE bt n p = spE (qD bt n) p from (if_neg (by omega)).trans ((if_neg h76).trans ((if_neg hl0).trans (if_pos hd1)))], fun _ => by rw [← hpp, show tkV bt n p = _ from if_neg hl0]⟩)
        · have hl1 : isL (bt p) = true := by unfold qL at h105; simp at h105; exact h105.2
          refine aw_run oX5_scan sxOk 1 (pc' := 109) (L' := [some (.ref 1)]) (st' := [.ref 1]) (I' := up2 (up2 (up2 (up2 I 1 2 k0) 1 3 (nI p)) 1 4 (nI p)) 1 5 v0) (J' := J) (G' := G) rfl ?_
          refine aw_cV (st := []) 1 [] oX5_scanLetters k5_80 rfl rfl rfl rfl rfl rfl rfl rfl (oX5_scan.dec rfl) (c_scanLetters (I := I) (J := J) (G := G) (k0 := k0) (v0 := v0) (p := p) hbt hn (by omega) (by omega)) ?_
          refine aw_eqS (st := []) rfl ?_
          refine aw_run oX5_scan sxOk 1 (pc' := 138) (L' := [some (.ref 1)]) (st' := []) (I' := up2 (up2 (up2 (up2 I 1 2 (nI 1)) 1 3 (nI p)) 1 4 (nI (spE (qL bt n) p))) 1 5 (nI (if spE (qL bt n) p = p + 1 then bt p else 0))) (J' := J) (G' := G) rfl ?_
          exact aw_vret rfl (oX5_scan.dec rfl) (⟨rfl, rfl, rfl, _, by rw [← hpp, show tkK bt n p = 1 from (if_neg (by omega)).trans ((if_neg h76).trans (if_pos hl1)), show tkE bt n p = spE (qL bt n) p from (if_neg (by omega)).trans ((if_neg h76).trans (if_pos hl1))], fun _ => by rw [← hpp, show tkV bt n p = _ from if_pos hl1]⟩)
      · refine aw_run oX5_scan sxOk 10 (pc' := 138) (L' := [some (.ref 1)]) (st' := []) (I' := up2 (up2 (up2 (up2 (up2 (up2 I 1 2 k0) 1 3 (nI p)) 1 4 (nI p)) 1 5 v0) 1 2 (nI 3)) 1 4 ((nI p) + (nI 1))) (J' := J) (G' := G) rfl ?_
        refine aw_eqI (I' := up2 (up2 (up2 (up2 I 1 2 (nI 3)) 1 3 (nI p)) 1 4 ((nI p) + (nI 1))) 1 5 v0) (by rw [IT2, IT4]) ?_
        exact aw_vret rfl (oX5_scan.dec rfl) (⟨rfl, rfl, rfl, v0, by rw [← hpp, show tkK bt n p = 3 from (if_neg (by omega)).trans (if_pos h76), show tkE bt n p = p + 1 from (if_neg (by omega)).trans (if_pos h76), show nI p + nI 1 = nI (p + 1) from addN rfl rfl], fun h => by rw [← hpp, show tkK bt n p = 3 from (if_neg (by omega)).trans (if_pos h76)] at h; omega⟩)
    · refine aw_run oX5_scan sxOk 4 (pc' := 138) (L' := [some (.ref 1)]) (st' := []) (I' := up2 (up2 (up2 (up2 (up2 I 1 2 k0) 1 3 (nI p)) 1 4 (nI p)) 1 5 v0) 1 2 (nI 0)) (J' := J) (G' := G) rfl ?_
      refine aw_eqI (I' := up2 (up2 (up2 (up2 I 1 2 (nI 0)) 1 3 (nI p)) 1 4 (nI p)) 1 5 v0) (by rw [IT2]) ?_
      exact aw_vret rfl (oX5_scan.dec rfl) (⟨rfl, rfl, rfl, v0, by rw [← hpp, show tkK bt n p = 0 from if_pos h54, show tkE bt n p = p from if_pos h54], fun h => by rw [← hpp, show tkK bt n p = 0 from if_pos h54] at h; omega⟩)
  have loop : ∀ (m e : Nat) (x : Int32), (e + m = n) → (x = nI e) → (skp bt n e = skp bt n e0) → AW SX mX5_scan 0 [some (.ref 1)] [] (up2 (up2 (up2 (up2 I 1 2 k0) 1 3 p0) 1 4 x) 1 5 v0) J G (fun r I' J' G' => r = none ∧ J' = J ∧ G' = G ∧ ∃ v1, I' = up2 (up2 (up2 (up2 I 1 2 (nI (tkK bt n (skp bt n e0)))) 1 3 (nI (skp bt n e0))) 1 4 (nI (tkE bt n (skp bt n e0)))) 1 5 v1 ∧ (tkK bt n (skp bt n e0) = 1 ∨ tkK bt n (skp bt n e0) = 2 → v1 = nI (tkV bt n (skp bt n e0)))) := by
    intro m
    induction m with
    | zero =>
      intro e x hsn hx hee
      refine aw_run oX5_scan sxOk 4 (pc' := 8) (L' := [some (.ref 1)]) (st' := [.int (I 1 1), .int x]) (I' := up2 (up2 (up2 (up2 I 1 2 k0) 1 3 p0) 1 4 x) 1 5 v0) (J' := J) (G' := G) rfl ?_
      refine aw_geN hx hn (by omega) (by omega) (oX5_scan.dec rfl) (tgt := 38) rfl (fun h8 => ?_) (fun h8 => absurd h8 (by omega))
      exact fin _ e hx (by rw [← hee]; exact (spE_f (by unfold qS; rw [decide_eq_false (by omega)]; rfl)).symm)
    | succ m ih =>
      intro e x hsn hx hee
      refine aw_run oX5_scan sxOk 4 (pc' := 8) (L' := [some (.ref 1)]) (st' := [.int (I 1 1), .int x]) (I' := up2 (up2 (up2 (up2 I 1 2 k0) 1 3 p0) 1 4 x) 1 5 v0) (J' := J) (G' := G) rfl ?_
      refine aw_geN hx hn (by omega) (by omega) (oX5_scan.dec rfl) (tgt := 38) rfl (fun h8 => absurd h8 (by omega)) (fun h8 => ?_)
      refine aw_run oX5_scan sxOk 4 (pc' := 19) (L' := [some (.ref 1)]) (st' := [.int x, .ref 10]) (I' := up2 (up2 (up2 (up2 I 1 2 k0) 1 3 p0) 1 4 x) 1 5 v0) (J' := J) (G' := G) rfl ?_
      refine aw_iaN e sxOk rfl hx (by omega) (oX5_scan.dec rfl) ?_
      refine aw_run oX5_scan sxOk 1 (pc' := 22) (L' := [some (.ref 1)]) (st' := [.int (nI 32), .int (G 10 e)]) (I' := up2 (up2 (up2 (up2 I 1 2 k0) 1 3 p0) 1 4 x) 1 5 v0) (J' := J) (G' := G) rfl ?_
      refine aw_neN ((hbt e (by omega)).1) rfl (by have := (hbt e (by omega)).2; omega) (by omega) (oX5_scan.dec rfl) (tgt := 38) rfl (fun h22 => ?_) (fun h22 => ?_)
      · exact fin _ e hx (by rw [← hee]; exact (spE_f (by unfold qS; rw [decide_eq_false h22, Bool.and_false])).symm)
      · refine aw_run oX5_scan sxOk 7 (pc' := 0) (L' := [some (.ref 1)]) (st' := []) (I' := up2 (up2 (up2 (up2 (up2 I 1 2 k0) 1 3 p0) 1 4 x) 1 5 v0) 1 4 (x + (nI 1))) (J' := J) (G' := G) rfl ?_
        refine aw_eqI (I' := up2 (up2 (up2 (up2 I 1 2 k0) 1 3 p0) 1 4 (x + (nI 1))) 1 5 v0) (by rw [IT4]) ?_
        exact ih (e + 1) _ (by omega) (addN hx rfl) (by rw [show skp bt n (e + 1) = skp bt n e from spE_t (by unfold qS; rw [decide_eq_true (show e < n by omega), decide_eq_true h22]; rfl) (by omega)]; exact hee)
  exact loop (n - e0) e0 _ (by omega) rfl rfl
