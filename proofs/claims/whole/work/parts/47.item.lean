set_option maxRecDepth 20000 in
theorem c_mostOf_w {I : II} {J : JJ} {G : II}  : AMet SX mX5_mostOf [.int (nI 119)] I J G (PE (some (.ref 100)) I J G) := by
  refine amet_en oX5_mostOf rfl rfl (L := [some (.int (nI 119))]) rfl ?_
  refine aw_run oX5_mostOf sxOk 2 (pc' := 3) (L' := [some (.int (nI 119))]) (st' := [.int (nI 119), .int (nI 119)]) (I' := I) (J' := J) (G' := G) rfl ?_
  refine aw_neN rfl rfl (by omega) (by omega) (oX5_mostOf.dec rfl) (tgt := 10) rfl (fun h3 => absurd h3 (by omega)) (fun h3 => ?_)
  refine aw_gets (k0 := 100) (by decide) rfl (oX5_mostOf.dec rfl) ?_
  exact aw_aret rfl (by first | exact Or.inl ⟨_, rfl⟩ | exact Or.inr ⟨_, rfl⟩) (oX5_mostOf.dec rfl) pe_rfl
set_option maxRecDepth 20000 in
theorem c_mostOf_s {I : II} {J : JJ} {G : II}  : AMet SX mX5_mostOf [.int (nI 115)] I J G (PE (some (.ref 101)) I J G) := by
  refine amet_en oX5_mostOf rfl rfl (L := [some (.int (nI 115))]) rfl ?_
  refine aw_run oX5_mostOf sxOk 2 (pc' := 3) (L' := [some (.int (nI 115))]) (st' := [.int (nI 119), .int (nI 115)]) (I' := I) (J' := J) (G' := G) rfl ?_
  refine aw_neN rfl rfl (by omega) (by omega) (oX5_mostOf.dec rfl) (tgt := 10) rfl (fun h3 => ?_) (fun h3 => absurd h3 (by omega))
  refine aw_run oX5_mostOf sxOk 2 (pc' := 13) (L' := [some (.int (nI 115))]) (st' := [.int (nI 115), .int (nI 115)]) (I' := I) (J' := J) (G' := G) rfl ?_
  refine aw_neN rfl rfl (by omega) (by omega) (oX5_mostOf.dec rfl) (tgt := 22) rfl (fun h13 => absurd h13 (by omega)) (fun h13 => ?_)
  refine aw_gets (k0 := 101) (by decide) rfl (oX5_mostOf.dec rfl) ?_
  refine aw_run oX5_mostOf sxOk 1 (pc' := 25) (L' := [some (.int (nI 115))]) (st' := [.ref 101]) (I' := I) (J' := J) (G' := G) rfl ?_
  exact aw_aret rfl (by first | exact Or.inl ⟨_, rfl⟩ | exact Or.inr ⟨_, rfl⟩) (oX5_mostOf.dec rfl) pe_rfl
set_option maxRecDepth 20000 in
theorem c_mostOf_k {I : II} {J : JJ} {G : II}  : AMet SX mX5_mostOf [.int (nI 107)] I J G (PE (some (.ref 102)) I J G) := by
  refine amet_en oX5_mostOf rfl rfl (L := [some (.int (nI 107))]) rfl ?_
  refine aw_run oX5_mostOf sxOk 2 (pc' := 3) (L' := [some (.int (nI 107))]) (st' := [.int (nI 119), .int (nI 107)]) (I' := I) (J' := J) (G' := G) rfl ?_
  refine aw_neN rfl rfl (by omega) (by omega) (oX5_mostOf.dec rfl) (tgt := 10) rfl (fun h3 => ?_) (fun h3 => absurd h3 (by omega))
  refine aw_run oX5_mostOf sxOk 2 (pc' := 13) (L' := [some (.int (nI 107))]) (st' := [.int (nI 115), .int (nI 107)]) (I' := I) (J' := J) (G' := G) rfl ?_
  refine aw_neN rfl rfl (by omega) (by omega) (oX5_mostOf.dec rfl) (tgt := 22) rfl (fun h13 => ?_) (fun h13 => absurd h13 (by omega))
  refine aw_gets (k0 := 102) (by decide) rfl (oX5_mostOf.dec rfl) ?_
  exact aw_aret rfl (by first | exact Or.inl ⟨_, rfl⟩ | exact Or.inr ⟨_, rfl⟩) (oX5_mostOf.dec rfl) pe_rfl
set_option maxRecDepth 20000 in
theorem c_canTake_w {I : II} {J : JJ} {G : II} {W : Nat} (hW : I 3 6 = nI W) (hW12 : W ≤ 12) : AMet SX mX4_canTake [.ref 3, .int (nI 119)] I J G (PE (some (.int (b1 (decide (W < 12))))) I J G) := by
  refine amet_en oX4_canTake rfl rfl (L := [some (.ref 3), some (.int (nI 119))]) rfl ?_
  refine aw_run oX4_canTake sxOk 1 (pc' := 1) (L' := [some (.ref 3), some (.int (nI 119))]) (st' := [.int (nI 119)]) (I' := I) (J' := J) (G' := G) rfl ?_
  refine aw_lookup (x := nI 119) (oX4_canTake.dec rfl) (by decide) (off := 35) (by decide) (tgt := 36) rfl ?_
  refine aw_run oX4_canTake sxOk 3 (pc' := 42) (L' := [some (.ref 3), some (.int (nI 119))]) (st' := [.int (nI 12), .int (I 3 6)]) (I' := I) (J' := J) (G' := G) rfl ?_
  refine aw_geN hW rfl (by omega) (by omega) (oX4_canTake.dec rfl) (tgt := 49) rfl (fun h42 => ?_) (fun h42 => ?_)
  · refine aw_run oX4_canTake sxOk 1 (pc' := 50) (L' := [some (.ref 3), some (.int (nI 119))]) (st' := [.int (nI 0)]) (I' := I) (J' := J) (G' := G) rfl ?_
    exact aw_zret rfl (by first | exact Or.inl rfl | exact Or.inr rfl) (oX4_canTake.dec rfl) (pe_i (by rw [decide_eq_false (show ¬ (W < 12) by omega)]; rfl))
  · refine aw_run oX4_canTake sxOk 2 (pc' := 50) (L' := [some (.ref 3), some (.int (nI 119))]) (st' := [.int (nI 1)]) (I' := I) (J' := J) (G' := G) rfl ?_
    exact aw_zret rfl (by first | exact Or.inl rfl | exact Or.inr rfl) (oX4_canTake.dec rfl) (pe_i (by rw [decide_eq_true (show W < 12 by omega)]; rfl))
set_option maxRecDepth 20000 in
theorem c_canTake_s {I : II} {J : JJ} {G : II} {P : Nat} (hP : I 3 7 = nI P) (hP5 : P ≤ 5) : AMet SX mX4_canTake [.ref 3, .int (nI 115)] I J G (PE (some (.int (b1 (decide (P < 5))))) I J G) := by
  refine amet_en oX4_canTake rfl rfl (L := [some (.ref 3), some (.int (nI 115))]) rfl ?_
  refine aw_run oX4_canTake sxOk 1 (pc' := 1) (L' := [some (.ref 3), some (.int (nI 115))]) (st' := [.int (nI 115)]) (I' := I) (J' := J) (G' := G) rfl ?_
  refine aw_lookup (x := nI 115) (oX4_canTake.dec rfl) (by decide) (off := 50) (by decide) (tgt := 51) rfl ?_
  refine aw_run oX4_canTake sxOk 3 (pc' := 56) (L' := [some (.ref 3), some (.int (nI 115))]) (st' := [.int (nI 5), .int (I 3 7)]) (I' := I) (J' := J) (G' := G) rfl ?_
  refine aw_geN hP rfl (by omega) (by omega) (oX4_canTake.dec rfl) (tgt := 63) rfl (fun h56 => ?_) (fun h56 => ?_)
  · refine aw_run oX4_canTake sxOk 1 (pc' := 64) (L' := [some (.ref 3), some (.int (nI 115))]) (st' := [.int (nI 0)]) (I' := I) (J' := J) (G' := G) rfl ?_
    exact aw_zret rfl (by first | exact Or.inl rfl | exact Or.inr rfl) (oX4_canTake.dec rfl) (pe_i (by rw [decide_eq_false (show ¬ (P < 5) by omega)]; rfl))
  · refine aw_run oX4_canTake sxOk 2 (pc' := 64) (L' := [some (.ref 3), some (.int (nI 115))]) (st' := [.int (nI 1)]) (I' := I) (J' := J) (G' := G) rfl ?_
    exact aw_zret rfl (by first | exact Or.inl rfl | exact Or.inr rfl) (oX4_canTake.dec rfl) (pe_i (by rw [decide_eq_true (show P < 5 by omega)]; rfl))
set_option maxRecDepth 20000 in
theorem c_canTake_k1 {I : II} {J : JJ} {G : II} (hT : I 3 9 = nI 1) : AMet SX mX4_canTake [.ref 3, .int (nI 107)] I J G (PE (some (.int (nI 0))) I J G) := by
  refine amet_en oX4_canTake rfl rfl (L := [some (.ref 3), some (.int (nI 107))]) rfl ?_
  refine aw_run oX4_canTake sxOk 1 (pc' := 1) (L' := [some (.ref 3), some (.int (nI 107))]) (st' := [.int (nI 107)]) (I' := I) (J' := J) (G' := G) rfl ?_
  refine aw_lookup (x := nI 107) (oX4_canTake.dec rfl) (by decide) (off := 64) (by decide) (tgt := 65) rfl ?_
  refine aw_run oX4_canTake sxOk 2 (pc' := 69) (L' := [some (.ref 3), some (.int (nI 107))]) (st' := [.int (I 3 9)]) (I' := I) (J' := J) (G' := G) rfl ?_
  refine aw_if_ne (oX4_canTake.dec rfl) (tgt := 76) rfl (fun h69 => ?_) (fun h69 => absurd h69 (by rw [hT]; decide))
  refine aw_run oX4_canTake sxOk 1 (pc' := 77) (L' := [some (.ref 3), some (.int (nI 107))]) (st' := [.int (nI 0)]) (I' := I) (J' := J) (G' := G) rfl ?_
  exact aw_zret rfl (by first | exact Or.inl rfl | exact Or.inr rfl) (oX4_canTake.dec rfl) (pe_i rfl)
set_option maxRecDepth 20000 in
theorem c_canTake_k0 {I : II} {J : JJ} {G : II} (hT : I 3 9 = nI 0) : AMet SX mX4_canTake [.ref 3, .int (nI 107)] I J G (PE (some (.int (nI 1))) I J G) := by
  refine amet_en oX4_canTake rfl rfl (L := [some (.ref 3), some (.int (nI 107))]) rfl ?_
  refine aw_run oX4_canTake sxOk 1 (pc' := 1) (L' := [some (.ref 3), some (.int (nI 107))]) (st' := [.int (nI 107)]) (I' := I) (J' := J) (G' := G) rfl ?_
  refine aw_lookup (x := nI 107) (oX4_canTake.dec rfl) (by decide) (off := 64) (by decide) (tgt := 65) rfl ?_
  refine aw_run oX4_canTake sxOk 2 (pc' := 69) (L' := [some (.ref 3), some (.int (nI 107))]) (st' := [.int (I 3 9)]) (I' := I) (J' := J) (G' := G) rfl ?_
  refine aw_if_ne (oX4_canTake.dec rfl) (tgt := 76) rfl (fun h69 => absurd hT h69) (fun h69 => ?_)
  refine aw_run oX4_canTake sxOk 2 (pc' := 77) (L' := [some (.ref 3), some (.int (nI 107))]) (st' := [.int (nI 1)]) (I' := I) (J' := J) (G' := G) rfl ?_
  exact aw_zret rfl (by first | exact Or.inl rfl | exact Or.inr rfl) (oX4_canTake.dec rfl) (pe_i rfl)
set_option maxRecDepth 20000 in
theorem c_canTake_no {I : II} {J : JJ} {G : II} {c : Nat} (hc : Op.lookupswitch.offset [(107, 64), (115, 50), (119, 35)] 77 (nI c).toInt = 77) : AMet SX mX4_canTake [.ref 3, .int (nI c)] I J G (PE (some (.int (nI 0))) I J G) := by
  refine amet_en oX4_canTake rfl rfl (L := [some (.ref 3), some (.int (nI c))]) rfl ?_
  refine aw_run oX4_canTake sxOk 1 (pc' := 1) (L' := [some (.ref 3), some (.int (nI c))]) (st' := [.int (nI c)]) (I' := I) (J' := J) (G' := G) rfl ?_
  refine aw_lookup (x := nI c) (oX4_canTake.dec rfl) (by decide) (off := 77) (hc) (tgt := 78) rfl ?_
  refine aw_run oX4_canTake sxOk 1 (pc' := 79) (L' := [some (.ref 3), some (.int (nI c))]) (st' := [.int (nI 0)]) (I' := I) (J' := J) (G' := G) rfl ?_
  exact aw_zret rfl (by first | exact Or.inl rfl | exact Or.inr rfl) (oX4_canTake.dec rfl) (pe_i rfl)
set_option maxRecDepth 20000 in
theorem c_readNumbers_w {I : II} {J : JJ} {G : II} {bt : Nat → Nat} {n : Nat} (hbt : ∀ i, i < 180 → G 10 i = nI (bt i) ∧ bt i < 256) (hn : I 1 1 = nI n) (hn180 : n ≤ 180) {k0 v0 : Int32} {p0 e0 : Nat} (he0 : e0 ≤ n) : AMet SX mX5_readNumbers [.ref 1, .ref 100] (up2 (up2 (up2 (up2 I 1 2 k0) 1 3 (nI p0)) 1 4 (nI e0)) 1 5 v0) J G (fun r I' J' G' => ∃ (b : Bool) (k1 v1 : Int32) (p1 e1 : Nat) (f1 : Nat → Int32), r = some (.int (b1 b)) ∧ I' = up2 (up2 (up2 (up2 I 1 2 k1) 1 3 (nI p1)) 1 4 (nI e1)) 1 5 v1 ∧ J' = J ∧ G' = va_up G 11 f1 ∧ (b = false → numR bt n [10, 40] e0 = .inl p1) ∧ (b = true → ∃ vs, numR bt n [10, 40] e0 = .inr (vs, e1) ∧ ∀ i, i < 2 → f1 i = nI (vs.getD i 0))) := by
  refine amet_en oX5_readNumbers rfl rfl (L := [some (.ref 1), some (.ref 100), none]) rfl ?_
  have loop : ∀ (m i e p : Nat) (x k v : Int32) (f : Nat → Int32) (vs : List Nat), (i + m = 2) → (x = nI i) → (e ≤ n) → (vs.length = i) → (∀ j, j < i → f j = nI (vs.getD j 0)) → (∀ g, numR bt n (([10, 40] : List Nat).drop i) e = .inl g → numR bt n [10, 40] e0 = .inl g) → (∀ q, numR bt n (([10, 40] : List Nat).drop i) e = .inr q → numR bt n [10, 40] e0 = .inr (vs ++ q.1, q.2)) → AW SX mX5_readNumbers 2 [some (.ref 1), some (.ref 100), some (.int x)] [] (up2 (up2 (up2 (up2 I 1 2 k) 1 3 (nI p)) 1 4 (nI e)) 1 5 v) J (va_up G 11 f) (fun r I' J' G' => ∃ (b : Bool) (k1 v1 : Int32) (p1 e1 : Nat) (f1 : Nat → Int32), r = some (.int (b1 b)) ∧ I' = up2 (up2 (up2 (up2 I 1 2 k1) 1 3 (nI p1)) 1 4 (nI e1)) 1 5 v1 ∧ J' = J ∧ G' = va_up G 11 f1 ∧ (b = false → numR bt n [10, 40] e0 = .inl p1) ∧ (b = true → ∃ vs, numR bt n [10, 40] e0 = .inr (vs, e1) ∧ ∀ i, i < 2 → f1 i = nI (vs.getD i 0))) := by
    intro m
    induction m with
    | zero =>
      intro i e p x k v f vs hsn hx he hl hf hF hS
      have hi : i = 2 := by omega
      refine aw_run oX5_readNumbers sxOk 2 (pc' := 4) (L' := [some (.ref 1), some (.ref 100), some (.int x)]) (st' := [.ref 100, .int x]) (I' := up2 (up2 (up2 (up2 I 1 2 k) 1 3 (nI p)) 1 4 (nI e)) 1 5 v) (J' := J) (G' := va_up G 11 f) rfl ?_
      refine aw_tlen (k0 := 100) rfl (oX5_readNumbers.dec rfl) ?_
      refine aw_eqS (st := [.int (nI 2), .int x]) rfl ?_
      refine aw_geN hx rfl (by omega) (by omega) (oX5_readNumbers.dec rfl) (tgt := 57) rfl (fun h5 => ?_) (fun h5 => absurd h5 (by omega))
      refine aw_run oX5_readNumbers sxOk 1 (pc' := 58) (L' := [some (.ref 1), some (.ref 100), some (.int x)]) (st' := [.int (nI 1)]) (I' := up2 (up2 (up2 (up2 I 1 2 k) 1 3 (nI p)) 1 4 (nI e)) 1 5 v) (J' := J) (G' := va_up G 11 f) rfl ?_
      exact aw_zret rfl (by first | exact Or.inl rfl | exact Or.inr rfl) (oX5_readNumbers.dec rfl) (⟨true, k, v, p, e, f, rfl, rfl, rfl, rfl, fun h => (by cases h), fun _ => ⟨vs, by rw [hS ([], e) (by subst hi; rfl), List.append_nil], fun j hj => hf j (by omega)⟩⟩)
    | succ m ih =>
      intro i e p x k v f vs hsn hx he hl hf hF hS
      have hdr : ∀ i, i < 2 → ([10, 40] : List Nat).drop i = ([10, 40] : List Nat).getD i 0 :: ([10, 40] : List Nat).drop (i + 1) ∧ (snl 100).getD i 0 = nI (([10, 40] : List Nat).getD i 0) ∧ ([10, 40] : List Nat).getD i 0 < 100 := by decide
      obtain ⟨hd1, hd2, hd3⟩ := hdr i (by omega)
      refine aw_run oX5_readNumbers sxOk 2 (pc' := 4) (L' := [some (.ref 1), some (.ref 100), some (.int x)]) (st' := [.ref 100, .int x]) (I' := up2 (up2 (up2 (up2 I 1 2 k) 1 3 (nI p)) 1 4 (nI e)) 1 5 v) (J' := J) (G' := va_up G 11 f) rfl ?_
      refine aw_tlen (k0 := 100) rfl (oX5_readNumbers.dec rfl) ?_
      refine aw_eqS (st := [.int (nI 2), .int x]) rfl ?_
      refine aw_geN hx rfl (by omega) (by omega) (oX5_readNumbers.dec rfl) (tgt := 57) rfl (fun h5 => absurd h5 (by omega)) (fun h5 => ?_)
      refine aw_run oX5_readNumbers sxOk 3 (pc' := 13) (L' := [some (.ref 1), some (.ref 100), some (.int x)]) (st' := [.ref 11, .int x]) (I' := up2 (up2 (up2 (up2 I 1 2 k) 1 3 (nI p)) 1 4 (nI e)) 1 5 v) (J' := J) (G' := va_up G 11 f) rfl ?_
      refine aw_alen sxOk (k0 := 11) rfl (oX5_readNumbers.dec rfl) ?_
      refine aw_eqS (st := [.int (nI 4), .int x]) rfl ?_
      refine aw_geN hx rfl (by omega) (by omega) (oX5_readNumbers.dec rfl) (tgt := 57) rfl (fun h14 => absurd h14 (by omega)) (fun h14 => ?_)
      refine aw_run oX5_readNumbers sxOk 1 (pc' := 18) (L' := [some (.ref 1), some (.ref 100), some (.int x)]) (st' := [.ref 1]) (I' := up2 (up2 (up2 (up2 I 1 2 k) 1 3 (nI p)) 1 4 (nI e)) 1 5 v) (J' := J) (G' := va_up G 11 f) rfl ?_
      have hsk1 : skp bt n e ≤ n := skp_n (by omega)
      have hse1 : tkE bt n (skp bt n e) ≤ n := tkE_n hsk1
      refine aw_cVP (st := []) 1 [] oX5_scan k5_28 rfl rfl rfl rfl rfl rfl rfl rfl (oX5_readNumbers.dec rfl) (c_scan (I := I) (J := J) (G := va_up G 11 f) (k0 := k) (p0 := nI p) (v0 := v) (e0 := e) hbt hn hn180 (by omega)) (fun r18 I18 J18 G18 hq18 => ?_)
      obtain ⟨hr, hJ, hG, v1, hI, hv1⟩ := hq18
      obtain rfl := hr.symm; obtain rfl := hI.symm; obtain rfl := hJ.symm; obtain rfl := hG.symm
      refine aw_eqS (st := []) rfl ?_
      refine aw_run oX5_readNumbers sxOk 3 (pc' := 26) (L' := [some (.ref 1), some (.ref 100), some (.int x)]) (st' := [.int (nI 2), .int (nI (tkK bt n (skp bt n e)))]) (I' := up2 (up2 (up2 (up2 I 1 2 (nI (tkK bt n (skp bt n e)))) 1 3 (nI (skp bt n e))) 1 4 (nI (tkE bt n (skp bt n e)))) 1 5 v1) (J' := J) (G' := va_up G 11 f) rfl ?_
      refine aw_neN rfl rfl (Nat.lt_of_le_of_lt tkK_le (by decide)) (by omega) (oX5_readNumbers.dec rfl) (tgt := 39) rfl (fun h26 => ?_) (fun h26 => ?_)
      · refine aw_run oX5_readNumbers sxOk 1 (pc' := 40) (L' := [some (.ref 1), some (.ref 100), some (.int x)]) (st' := [.int (nI 0)]) (I' := up2 (up2 (up2 (up2 I 1 2 (nI (tkK bt n (skp bt n e)))) 1 3 (nI (skp bt n e))) 1 4 (nI (tkE bt n (skp bt n e)))) 1 5 v1) (J' := J) (G' := va_up G 11 f) rfl ?_
        exact aw_zret rfl (by first | exact Or.inl rfl | exact Or.inr rfl) (oX5_readNumbers.dec rfl) (⟨false, _, _, skp bt n e, _, _, rfl, rfl, rfl, rfl, fun _ => hF _ (by rw [hd1]; exact numR_no (by omega)), fun h => (by cases h)⟩)
      · have hv := hv1 (Or.inr h26)
        have hvb : tkV bt n (skp bt n e) < 2147483648 := Nat.lt_trans (tkV_b (hbt _ (by have := tkK_lt (bt := bt) (n := n) (p := skp bt n e) (by omega); omega)).2) (by decide)
        refine aw_run oX5_readNumbers sxOk 4 (pc' := 35) (L' := [some (.ref 1), some (.ref 100), some (.int x)]) (st' := [.int x, .ref 100, .int v1]) (I' := up2 (up2 (up2 (up2 I 1 2 (nI (tkK bt n (skp bt n e)))) 1 3 (nI (skp bt n e))) 1 4 (nI (tkE bt n (skp bt n e)))) 1 5 v1) (J' := J) (G' := va_up G 11 f) rfl ?_
        refine aw_taN (k0 := 100) i rfl hx (show i < 2 by omega) (oX5_readNumbers.dec rfl) ?_
        refine aw_leN hv hd2 (hvb) (by omega) (oX5_readNumbers.dec rfl) (tgt := 41) rfl (fun h36 => ?_) (fun h36 => ?_)
        · refine aw_run oX5_readNumbers sxOk 5 (pc' := 50) (L' := [some (.ref 1), some (.ref 100), some (.int x)]) (st' := [.int v1, .int x, .ref 11]) (I' := up2 (up2 (up2 (up2 I 1 2 (nI (tkK bt n (skp bt n e)))) 1 3 (nI (skp bt n e))) 1 4 (nI (tkE bt n (skp bt n e)))) 1 5 v1) (J' := J) (G' := va_up G 11 f) rfl ?_
          refine aw_isN i sxOk rfl hx (by omega) (oX5_readNumbers.dec rfl) ?_
          refine aw_eqG (G' := va_up G 11 (upd f i v1)) (bx_uu _ _ _ _) ?_
          refine aw_run oX5_readNumbers sxOk 2 (pc' := 2) (L' := [some (.ref 1), some (.ref 100), some (.int (x + (nI 1)))]) (st' := []) (I' := up2 (up2 (up2 (up2 I 1 2 (nI (tkK bt n (skp bt n e)))) 1 3 (nI (skp bt n e))) 1 4 (nI (tkE bt n (skp bt n e)))) 1 5 v1) (J' := J) (G' := va_up G 11 (upd f i v1)) rfl ?_
          have hok : tkK bt n (skp bt n e) = 2 ∧ tkV bt n (skp bt n e) ≤ ([10, 40] : List Nat).getD i 0 := ⟨by omega, by omega⟩
          exact ih (i + 1) (tkE bt n (skp bt n e)) _ _ _ _ _ (vs ++ [tkV bt n (skp bt n e)]) (by omega) (addN hx rfl) (by omega) (by rw [List.length_append, hl]; rfl) (fun j hj => apD (f := f) hl hf hv j hj) (fun g hg => hF g (by rw [hd1]; exact numR_f hok hg)) (fun q hq => by rw [hS _ (by rw [hd1]; exact numR_s hok hq), List.append_assoc]; rfl)
        · refine aw_run oX5_readNumbers sxOk 1 (pc' := 40) (L' := [some (.ref 1), some (.ref 100), some (.int x)]) (st' := [.int (nI 0)]) (I' := up2 (up2 (up2 (up2 I 1 2 (nI (tkK bt n (skp bt n e)))) 1 3 (nI (skp bt n e))) 1 4 (nI (tkE bt n (skp bt n e)))) 1 5 v1) (J' := J) (G' := va_up G 11 f) rfl ?_
          exact aw_zret rfl (by first | exact Or.inl rfl | exact Or.inr rfl) (oX5_readNumbers.dec rfl) (⟨false, _, _, skp bt n e, _, _, rfl, rfl, rfl, rfl, fun _ => hF _ (by rw [hd1]; exact numR_no (by omega)), fun h => (by cases h)⟩)
  refine aw_eqG (upG_id G 11).symm ?_
  refine aw_run oX5_readNumbers sxOk 2 (pc' := 2) (L' := [some (.ref 1), some (.ref 100), some (.int (nI 0))]) (st' := []) (I' := up2 (up2 (up2 (up2 I 1 2 k0) 1 3 (nI p0)) 1 4 (nI e0)) 1 5 v0) (J' := J) (G' := va_up G 11 (G 11)) rfl ?_
  exact loop 2 0 e0 p0 _ _ _ _ [] (by omega) rfl (by omega) rfl (fun j hj => absurd hj (by omega)) (fun g hg => hg) (fun q hq => hq)
set_option maxRecDepth 20000 in
theorem c_readNumbers_s {I : II} {J : JJ} {G : II} {bt : Nat → Nat} {n : Nat} (hbt : ∀ i, i < 180 → G 10 i = nI (bt i) ∧ bt i < 256) (hn : I 1 1 = nI n) (hn180 : n ≤ 180) {k0 v0 : Int32} {p0 e0 : Nat} (he0 : e0 ≤ n) : AMet SX mX5_readNumbers [.ref 1, .ref 101] (up2 (up2 (up2 (up2 I 1 2 k0) 1 3 (nI p0)) 1 4 (nI e0)) 1 5 v0) J G (fun r I' J' G' => ∃ (b : Bool) (k1 v1 : Int32) (p1 e1 : Nat) (f1 : Nat → Int32), r = some (.int (b1 b)) ∧ I' = up2 (up2 (up2 (up2 I 1 2 k1) 1 3 (nI p1)) 1 4 (nI e1)) 1 5 v1 ∧ J' = J ∧ G' = va_up G 11 f1 ∧ (b = false → numR bt n [60, 60, 9, 11] e0 = .inl p1) ∧ (b = true → ∃ vs, numR bt n [60, 60, 9, 11] e0 = .inr (vs, e1) ∧ ∀ i, i < 4 → f1 i = nI (vs.getD i 0))) := by
  refine amet_en oX5_readNumbers rfl rfl (L := [some (.ref 1), some (.ref 101), none]) rfl ?_
  have loop : ∀ (m i e p : Nat) (x k v : Int32) (f : Nat → Int32) (vs : List Nat), (i + m = 4) → (x = nI i) → (e ≤ n) → (vs.length = i) → (∀ j, j < i → f j = nI (vs.getD j 0)) → (∀ g, numR bt n (([60, 60, 9, 11] : List Nat).drop i) e = .inl g → numR bt n [60, 60, 9, 11] e0 = .inl g) → (∀ q, numR bt n (([60, 60, 9, 11] : List Nat).drop i) e = .inr q → numR bt n [60, 60, 9, 11] e0 = .inr (vs ++ q.1, q.2)) → AW SX mX5_readNumbers 2 [some (.ref 1), some (.ref 101), some (.int x)] [] (up2 (up2 (up2 (up2 I 1 2 k) 1 3 (nI p)) 1 4 (nI e)) 1 5 v) J (va_up G 11 f) (fun r I' J' G' => ∃ (b : Bool) (k1 v1 : Int32) (p1 e1 : Nat) (f1 : Nat → Int32), r = some (.int (b1 b)) ∧ I' = up2 (up2 (up2 (up2 I 1 2 k1) 1 3 (nI p1)) 1 4 (nI e1)) 1 5 v1 ∧ J' = J ∧ G' = va_up G 11 f1 ∧ (b = false → numR bt n [60, 60, 9, 11] e0 = .inl p1) ∧ (b = true → ∃ vs, numR bt n [60, 60, 9, 11] e0 = .inr (vs, e1) ∧ ∀ i, i < 4 → f1 i = nI (vs.getD i 0))) := by
    intro m
    induction m with
    | zero =>
      intro i e p x k v f vs hsn hx he hl hf hF hS
      have hi : i = 4 := by omega
      refine aw_run oX5_readNumbers sxOk 2 (pc' := 4) (L' := [some (.ref 1), some (.ref 101), some (.int x)]) (st' := [.ref 101, .int x]) (I' := up2 (up2 (up2 (up2 I 1 2 k) 1 3 (nI p)) 1 4 (nI e)) 1 5 v) (J' := J) (G' := va_up G 11 f) rfl ?_
      refine aw_tlen (k0 := 101) rfl (oX5_readNumbers.dec rfl) ?_
      refine aw_eqS (st := [.int (nI 4), .int x]) rfl ?_
      refine aw_geN hx rfl (by omega) (by omega) (oX5_readNumbers.dec rfl) (tgt := 57) rfl (fun h5 => ?_) (fun h5 => absurd h5 (by omega))
      refine aw_run oX5_readNumbers sxOk 1 (pc' := 58) (L' := [some (.ref 1), some (.ref 101), some (.int x)]) (st' := [.int (nI 1)]) (I' := up2 (up2 (up2 (up2 I 1 2 k) 1 3 (nI p)) 1 4 (nI e)) 1 5 v) (J' := J) (G' := va_up G 11 f) rfl ?_
      exact aw_zret rfl (by first | exact Or.inl rfl | exact Or.inr rfl) (oX5_readNumbers.dec rfl) (⟨true, k, v, p, e, f, rfl, rfl, rfl, rfl, fun h => (by cases h), fun _ => ⟨vs, by rw [hS ([], e) (by subst hi; rfl), List.append_nil], fun j hj => hf j (by omega)⟩⟩)
    | succ m ih =>
      intro i e p x k v f vs hsn hx he hl hf hF hS
      have hdr : ∀ i, i < 4 → ([60, 60, 9, 11] : List Nat).drop i = ([60, 60, 9, 11] : List Nat).getD i 0 :: ([60, 60, 9, 11] : List Nat).drop (i + 1) ∧ (snl 101).getD i 0 = nI (([60, 60, 9, 11] : List Nat).getD i 0) ∧ ([60, 60, 9, 11] : List Nat).getD i 0 < 100 := by decide
      obtain ⟨hd1, hd2, hd3⟩ := hdr i (by omega)
      refine aw_run oX5_readNumbers sxOk 2 (pc' := 4) (L' := [some (.ref 1), some (.ref 101), some (.int x)]) (st' := [.ref 101, .int x]) (I' := up2 (up2 (up2 (up2 I 1 2 k) 1 3 (nI p)) 1 4 (nI e)) 1 5 v) (J' := J) (G' := va_up G 11 f) rfl ?_
      refine aw_tlen (k0 := 101) rfl (oX5_readNumbers.dec rfl) ?_
      refine aw_eqS (st := [.int (nI 4), .int x]) rfl ?_
      refine aw_geN hx rfl (by omega) (by omega) (oX5_readNumbers.dec rfl) (tgt := 57) rfl (fun h5 => absurd h5 (by omega)) (fun h5 => ?_)
      refine aw_run oX5_readNumbers sxOk 3 (pc' := 13) (L' := [some (.ref 1), some (.ref 101), some (.int x)]) (st' := [.ref 11, .int x]) (I' := up2 (up2 (up2 (up2 I 1 2 k) 1 3 (nI p)) 1 4 (nI e)) 1 5 v) (J' := J) (G' := va_up G 11 f) rfl ?_
      refine aw_alen sxOk (k0 := 11) rfl (oX5_readNumbers.dec rfl) ?_
      refine aw_eqS (st := [.int (nI 4), .int x]) rfl ?_
      refine aw_geN hx rfl (by omega) (by omega) (oX5_readNumbers.dec rfl) (tgt := 57) rfl (fun h14 => absurd h14 (by omega)) (fun h14 => ?_)
      refine aw_run oX5_readNumbers sxOk 1 (pc' := 18) (L' := [some (.ref 1), some (.ref 101), some (.int x)]) (st' := [.ref 1]) (I' := up2 (up2 (up2 (up2 I 1 2 k) 1 3 (nI p)) 1 4 (nI e)) 1 5 v) (J' := J) (G' := va_up G 11 f) rfl ?_
      have hsk1 : skp bt n e ≤ n := skp_n (by omega)
      have hse1 : tkE bt n (skp bt n e) ≤ n := tkE_n hsk1
      refine aw_cVP (st := []) 1 [] oX5_scan k5_28 rfl rfl rfl rfl rfl rfl rfl rfl (oX5_readNumbers.dec rfl) (c_scan (I := I) (J := J) (G := va_up G 11 f) (k0 := k) (p0 := nI p) (v0 := v) (e0 := e) hbt hn hn180 (by omega)) (fun r18 I18 J18 G18 hq18 => ?_)
      obtain ⟨hr, hJ, hG, v1, hI, hv1⟩ := hq18
      obtain rfl := hr.symm; obtain rfl := hI.symm; obtain rfl := hJ.symm; obtain rfl := hG.symm
      refine aw_eqS (st := []) rfl ?_
      refine aw_run oX5_readNumbers sxOk 3 (pc' := 26) (L' := [some (.ref 1), some (.ref 101), some (.int x)]) (st' := [.int (nI 2), .int (nI (tkK bt n (skp bt n e)))]) (I' := up2 (up2 (up2 (up2 I 1 2 (nI (tkK bt n (skp bt n e)))) 1 3 (nI (skp bt n e))) 1 4 (nI (tkE bt n (skp bt n e)))) 1 5 v1) (J' := J) (G' := va_up G 11 f) rfl ?_
      refine aw_neN rfl rfl (Nat.lt_of_le_of_lt tkK_le (by decide)) (by omega) (oX5_readNumbers.dec rfl) (tgt := 39) rfl (fun h26 => ?_) (fun h26 => ?_)
      · refine aw_run oX5_readNumbers sxOk 1 (pc' := 40) (L' := [some (.ref 1), some (.ref 101), some (.int x)]) (st' := [.int (nI 0)]) (I' := up2 (up2 (up2 (up2 I 1 2 (nI (tkK bt n (skp bt n e)))) 1 3 (nI (skp bt n e))) 1 4 (nI (tkE bt n (skp bt n e)))) 1 5 v1) (J' := J) (G' := va_up G 11 f) rfl ?_
        exact aw_zret rfl (by first | exact Or.inl rfl | exact Or.inr rfl) (oX5_readNumbers.dec rfl) (⟨false, _, _, skp bt n e, _, _, rfl, rfl, rfl, rfl, fun _ => hF _ (by rw [hd1]; exact numR_no (by omega)), fun h => (by cases h)⟩)
      · have hv := hv1 (Or.inr h26)
        have hvb : tkV bt n (skp bt n e) < 2147483648 := Nat.lt_trans (tkV_b (hbt _ (by have := tkK_lt (bt := bt) (n := n) (p := skp bt n e) (by omega); omega)).2) (by decide)
        refine aw_run oX5_readNumbers sxOk 4 (pc' := 35) (L' := [some (.ref 1), some (.ref 101), some (.int x)]) (st' := [.int x, .ref 101, .int v1]) (I' := up2 (up2 (up2 (up2 I 1 2 (nI (tkK bt n (skp bt n e)))) 1 3 (nI (skp bt n e))) 1 4 (nI (tkE bt n (skp bt n e)))) 1 5 v1) (J' := J) (G' := va_up G 11 f) rfl ?_
        refine aw_taN (k0 := 101) i rfl hx (show i < 4 by omega) (oX5_readNumbers.dec rfl) ?_
        refine aw_leN hv hd2 (hvb) (by omega) (oX5_readNumbers.dec rfl) (tgt := 41) rfl (fun h36 => ?_) (fun h36 => ?_)
        · refine aw_run oX5_readNumbers sxOk 5 (pc' := 50) (L' := [some (.ref 1), some (.ref 101), some (.int x)]) (st' := [.int v1, .int x, .ref 11]) (I' := up2 (up2 (up2 (up2 I 1 2 (nI (tkK bt n (skp bt n e)))) 1 3 (nI (skp bt n e))) 1 4 (nI (tkE bt n (skp bt n e)))) 1 5 v1) (J' := J) (G' := va_up G 11 f) rfl ?_
          refine aw_isN i sxOk rfl hx (by omega) (oX5_readNumbers.dec rfl) ?_
          refine aw_eqG (G' := va_up G 11 (upd f i v1)) (bx_uu _ _ _ _) ?_
          refine aw_run oX5_readNumbers sxOk 2 (pc' := 2) (L' := [some (.ref 1), some (.ref 101), some (.int (x + (nI 1)))]) (st' := []) (I' := up2 (up2 (up2 (up2 I 1 2 (nI (tkK bt n (skp bt n e)))) 1 3 (nI (skp bt n e))) 1 4 (nI (tkE bt n (skp bt n e)))) 1 5 v1) (J' := J) (G' := va_up G 11 (upd f i v1)) rfl ?_
          have hok : tkK bt n (skp bt n e) = 2 ∧ tkV bt n (skp bt n e) ≤ ([60, 60, 9, 11] : List Nat).getD i 0 := ⟨by omega, by omega⟩
          exact ih (i + 1) (tkE bt n (skp bt n e)) _ _ _ _ _ (vs ++ [tkV bt n (skp bt n e)]) (by omega) (addN hx rfl) (by omega) (by rw [List.length_append, hl]; rfl) (fun j hj => apD (f := f) hl hf hv j hj) (fun g hg => hF g (by rw [hd1]; exact numR_f hok hg)) (fun q hq => by rw [hS _ (by rw [hd1]; exact numR_s hok hq), List.append_assoc]; rfl)
        · refine aw_run oX5_readNumbers sxOk 1 (pc' := 40) (L' := [some (.ref 1), some (.ref 101), some (.int x)]) (st' := [.int (nI 0)]) (I' := up2 (up2 (up2 (up2 I 1 2 (nI (tkK bt n (skp bt n e)))) 1 3 (nI (skp bt n e))) 1 4 (nI (tkE bt n (skp bt n e)))) 1 5 v1) (J' := J) (G' := va_up G 11 f) rfl ?_
          exact aw_zret rfl (by first | exact Or.inl rfl | exact Or.inr rfl) (oX5_readNumbers.dec rfl) (⟨false, _, _, skp bt n e, _, _, rfl, rfl, rfl, rfl, fun _ => hF _ (by rw [hd1]; exact numR_no (by omega)), fun h => (by cases h)⟩)
  refine aw_eqG (upG_id G 11).symm ?_
  refine aw_run oX5_readNumbers sxOk 2 (pc' := 2) (L' := [some (.ref 1), some (.ref 101), some (.int (nI 0))]) (st' := []) (I' := up2 (up2 (up2 (up2 I 1 2 k0) 1 3 (nI p0)) 1 4 (nI e0)) 1 5 v0) (J' := J) (G' := va_up G 11 (G 11)) rfl ?_
  exact loop 4 0 e0 p0 _ _ _ _ [] (by omega) rfl (by omega) rfl (fun j hj => absurd hj (by omega)) (fun g hg => hg) (fun q hq => hq)
set_option maxRecDepth 20000 in
theorem c_readNumbers_k {I : II} {J : JJ} {G : II} {bt : Nat → Nat} {n : Nat} (hbt : ∀ i, i < 180 → G 10 i = nI (bt i) ∧ bt i < 256) (hn : I 1 1 = nI n) (hn180 : n ≤ 180) {k0 v0 : Int32} {p0 e0 : Nat} (he0 : e0 ≤ n) : AMet SX mX5_readNumbers [.ref 1, .ref 102] (up2 (up2 (up2 (up2 I 1 2 k0) 1 3 (nI p0)) 1 4 (nI e0)) 1 5 v0) J G (fun r I' J' G' => ∃ (b : Bool) (k1 v1 : Int32) (p1 e1 : Nat) (f1 : Nat → Int32), r = some (.int (b1 b)) ∧ I' = up2 (up2 (up2 (up2 I 1 2 k1) 1 3 (nI p1)) 1 4 (nI e1)) 1 5 v1 ∧ J' = J ∧ G' = va_up G 11 f1 ∧ (b = false → numR bt n [10] e0 = .inl p1) ∧ (b = true → ∃ vs, numR bt n [10] e0 = .inr (vs, e1) ∧ ∀ i, i < 1 → f1 i = nI (vs.getD i 0))) := by
  refine amet_en oX5_readNumbers rfl rfl (L := [some (.ref 1), some (.ref 102), none]) rfl ?_
  have loop : ∀ (m i e p : Nat) (x k v : Int32) (f : Nat → Int32) (vs : List Nat), (i + m = 1) → (x = nI i) → (e ≤ n) → (vs.length = i) → (∀ j, j < i → f j = nI (vs.getD j 0)) → (∀ g, numR bt n (([10] : List Nat).drop i) e = .inl g → numR bt n [10] e0 = .inl g) → (∀ q, numR bt n (([10] : List Nat).drop i) e = .inr q → numR bt n [10] e0 = .inr (vs ++ q.1, q.2)) → AW SX mX5_readNumbers 2 [some (.ref 1), some (.ref 102), some (.int x)] [] (up2 (up2 (up2 (up2 I 1 2 k) 1 3 (nI p)) 1 4 (nI e)) 1 5 v) J (va_up G 11 f) (fun r I' J' G' => ∃ (b : Bool) (k1 v1 : Int32) (p1 e1 : Nat) (f1 : Nat → Int32), r = some (.int (b1 b)) ∧ I' = up2 (up2 (up2 (up2 I 1 2 k1) 1 3 (nI p1)) 1 4 (nI e1)) 1 5 v1 ∧ J' = J ∧ G' = va_up G 11 f1 ∧ (b = false → numR bt n [10] e0 = .inl p1) ∧ (b = true → ∃ vs, numR bt n [10] e0 = .inr (vs, e1) ∧ ∀ i, i < 1 → f1 i = nI (vs.getD i 0))) := by
    intro m
    induction m with
    | zero =>
      intro i e p x k v f vs hsn hx he hl hf hF hS
      have hi : i = 1 := by omega
      refine aw_run oX5_readNumbers sxOk 2 (pc' := 4) (L' := [some (.ref 1), some (.ref 102), some (.int x)]) (st' := [.ref 102, .int x]) (I' := up2 (up2 (up2 (up2 I 1 2 k) 1 3 (nI p)) 1 4 (nI e)) 1 5 v) (J' := J) (G' := va_up G 11 f) rfl ?_
      refine aw_tlen (k0 := 102) rfl (oX5_readNumbers.dec rfl) ?_
      refine aw_eqS (st := [.int (nI 1), .int x]) rfl ?_
      refine aw_geN hx rfl (by omega) (by omega) (oX5_readNumbers.dec rfl) (tgt := 57) rfl (fun h5 => ?_) (fun h5 => absurd h5 (by omega))
      refine aw_run oX5_readNumbers sxOk 1 (pc' := 58) (L' := [some (.ref 1), some (.ref 102), some (.int x)]) (st' := [.int (nI 1)]) (I' := up2 (up2 (up2 (up2 I 1 2 k) 1 3 (nI p)) 1 4 (nI e)) 1 5 v) (J' := J) (G' := va_up G 11 f) rfl ?_
      exact aw_zret rfl (by first | exact Or.inl rfl | exact Or.inr rfl) (oX5_readNumbers.dec rfl) (⟨true, k, v, p, e, f, rfl, rfl, rfl, rfl, fun h => (by cases h), fun _ => ⟨vs, by rw [hS ([], e) (by subst hi; rfl), List.append_nil], fun j hj => hf j (by omega)⟩⟩)
    | succ m ih =>
      intro i e p x k v f vs hsn hx he hl hf hF hS
      have hdr : ∀ i, i < 1 → ([10] : List Nat).drop i = ([10] : List Nat).getD i 0 :: ([10] : List Nat).drop (i + 1) ∧ (snl 102).getD i 0 = nI (([10] : List Nat).getD i 0) ∧ ([10] : List Nat).getD i 0 < 100 := by decide
      obtain ⟨hd1, hd2, hd3⟩ := hdr i (by omega)
      refine aw_run oX5_readNumbers sxOk 2 (pc' := 4) (L' := [some (.ref 1), some (.ref 102), some (.int x)]) (st' := [.ref 102, .int x]) (I' := up2 (up2 (up2 (up2 I 1 2 k) 1 3 (nI p)) 1 4 (nI e)) 1 5 v) (J' := J) (G' := va_up G 11 f) rfl ?_
      refine aw_tlen (k0 := 102) rfl (oX5_readNumbers.dec rfl) ?_
      refine aw_eqS (st := [.int (nI 1), .int x]) rfl ?_
      refine aw_geN hx rfl (by omega) (by omega) (oX5_readNumbers.dec rfl) (tgt := 57) rfl (fun h5 => absurd h5 (by omega)) (fun h5 => ?_)
      refine aw_run oX5_readNumbers sxOk 3 (pc' := 13) (L' := [some (.ref 1), some (.ref 102), some (.int x)]) (st' := [.ref 11, .int x]) (I' := up2 (up2 (up2 (up2 I 1 2 k) 1 3 (nI p)) 1 4 (nI e)) 1 5 v) (J' := J) (G' := va_up G 11 f) rfl ?_
      refine aw_alen sxOk (k0 := 11) rfl (oX5_readNumbers.dec rfl) ?_
      refine aw_eqS (st := [.int (nI 4), .int x]) rfl ?_
      refine aw_geN hx rfl (by omega) (by omega) (oX5_readNumbers.dec rfl) (tgt := 57) rfl (fun h14 => absurd h14 (by omega)) (fun h14 => ?_)
      refine aw_run oX5_readNumbers sxOk 1 (pc' := 18) (L' := [some (.ref 1), some (.ref 102), some (.int x)]) (st' := [.ref 1]) (I' := up2 (up2 (up2 (up2 I 1 2 k) 1 3 (nI p)) 1 4 (nI e)) 1 5 v) (J' := J) (G' := va_up G 11 f) rfl ?_
      have hsk1 : skp bt n e ≤ n := skp_n (by omega)
      have hse1 : tkE bt n (skp bt n e) ≤ n := tkE_n hsk1
      refine aw_cVP (st := []) 1 [] oX5_scan k5_28 rfl rfl rfl rfl rfl rfl rfl rfl (oX5_readNumbers.dec rfl) (c_scan (I := I) (J := J) (G := va_up G 11 f) (k0 := k) (p0 := nI p) (v0 := v) (e0 := e) hbt hn hn180 (by omega)) (fun r18 I18 J18 G18 hq18 => ?_)
      obtain ⟨hr, hJ, hG, v1, hI, hv1⟩ := hq18
      obtain rfl := hr.symm; obtain rfl := hI.symm; obtain rfl := hJ.symm; obtain rfl := hG.symm
      refine aw_eqS (st := []) rfl ?_
      refine aw_run oX5_readNumbers sxOk 3 (pc' := 26) (L' := [some (.ref 1), some (.ref 102), some (.int x)]) (st' := [.int (nI 2), .int (nI (tkK bt n (skp bt n e)))]) (I' := up2 (up2 (up2 (up2 I 1 2 (nI (tkK bt n (skp bt n e)))) 1 3 (nI (skp bt n e))) 1 4 (nI (tkE bt n (skp bt n e)))) 1 5 v1) (J' := J) (G' := va_up G 11 f) rfl ?_
      refine aw_neN rfl rfl (Nat.lt_of_le_of_lt tkK_le (by decide)) (by omega) (oX5_readNumbers.dec rfl) (tgt := 39) rfl (fun h26 => ?_) (fun h26 => ?_)
      · refine aw_run oX5_readNumbers sxOk 1 (pc' := 40) (L' := [some (.ref 1), some (.ref 102), some (.int x)]) (st' := [.int (nI 0)]) (I' := up2 (up2 (up2 (up2 I 1 2 (nI (tkK bt n (skp bt n e)))) 1 3 (nI (skp bt n e))) 1 4 (nI (tkE bt n (skp bt n e)))) 1 5 v1) (J' := J) (G' := va_up G 11 f) rfl ?_
        exact aw_zret rfl (by first | exact Or.inl rfl | exact Or.inr rfl) (oX5_readNumbers.dec rfl) (⟨false, _, _, skp bt n e, _, _, rfl, rfl, rfl, rfl, fun _ => hF _ (by rw [hd1]; exact numR_no (by omega)), fun h => (by cases h)⟩)
      · have hv := hv1 (Or.inr h26)
        have hvb : tkV bt n (skp bt n e) < 2147483648 := Nat.lt_trans (tkV_b (hbt _ (by have := tkK_lt (bt := bt) (n := n) (p := skp bt n e) (by omega); omega)).2) (by decide)
        refine aw_run oX5_readNumbers sxOk 4 (pc' := 35) (L' := [some (.ref 1), some (.ref 102), some (.int x)]) (st' := [.int x, .ref 102, .int v1]) (I' := up2 (up2 (up2 (up2 I 1 2 (nI (tkK bt n (skp bt n e)))) 1 3 (nI (skp bt n e))) 1 4 (nI (tkE bt n (skp bt n e)))) 1 5 v1) (J' := J) (G' := va_up G 11 f) rfl ?_
        refine aw_taN (k0 := 102) i rfl hx (show i < 1 by omega) (oX5_readNumbers.dec rfl) ?_
        refine aw_leN hv hd2 (hvb) (by omega) (oX5_readNumbers.dec rfl) (tgt := 41) rfl (fun h36 => ?_) (fun h36 => ?_)
        · refine aw_run oX5_readNumbers sxOk 5 (pc' := 50) (L' := [some (.ref 1), some (.ref 102), some (.int x)]) (st' := [.int v1, .int x, .ref 11]) (I' := up2 (up2 (up2 (up2 I 1 2 (nI (tkK bt n (skp bt n e)))) 1 3 (nI (skp bt n e))) 1 4 (nI (tkE bt n (skp bt n e)))) 1 5 v1) (J' := J) (G' := va_up G 11 f) rfl ?_
          refine aw_isN i sxOk rfl hx (by omega) (oX5_readNumbers.dec rfl) ?_
          refine aw_eqG (G' := va_up G 11 (upd f i v1)) (bx_uu _ _ _ _) ?_
          refine aw_run oX5_readNumbers sxOk 2 (pc' := 2) (L' := [some (.ref 1), some (.ref 102), some (.int (x + (nI 1)))]) (st' := []) (I' := up2 (up2 (up2 (up2 I 1 2 (nI (tkK bt n (skp bt n e)))) 1 3 (nI (skp bt n e))) 1 4 (nI (tkE bt n (skp bt n e)))) 1 5 v1) (J' := J) (G' := va_up G 11 (upd f i v1)) rfl ?_
          have hok : tkK bt n (skp bt n e) = 2 ∧ tkV bt n (skp bt n e) ≤ ([10] : List Nat).getD i 0 := ⟨by omega, by omega⟩
          exact ih (i + 1) (tkE bt n (skp bt n e)) _ _ _ _ _ (vs ++ [tkV bt n (skp bt n e)]) (by omega) (addN hx rfl) (by omega) (by rw [List.length_append, hl]; rfl) (fun j hj => apD (f := f) hl hf hv j hj) (fun g hg => hF g (by rw [hd1]; exact numR_f hok hg)) (fun q hq => by rw [hS _ (by rw [hd1]; exact numR_s hok hq), List.append_assoc]; rfl)
        · refine aw_run oX5_readNumbers sxOk 1 (pc' := 40) (L' := [some (.ref 1), some (.ref 102), some (.int x)]) (st' := [.int (nI 0)]) (I' := up2 (up2 (up2 (up2 I 1 2 (nI (tkK bt n (skp bt n e)))) 1 3 (nI (skp bt n e))) 1 4 (nI (tkE bt n (skp bt n e)))) 1 5 v1) (J' := J) (G' := va_up G 11 f) rfl ?_
          exact aw_zret rfl (by first | exact Or.inl rfl | exact Or.inr rfl) (oX5_readNumbers.dec rfl) (⟨false, _, _, skp bt n e, _, _, rfl, rfl, rfl, rfl, fun _ => hF _ (by rw [hd1]; exact numR_no (by omega)), fun h => (by cases h)⟩)
  refine aw_eqG (upG_id G 11).symm ?_
  refine aw_run oX5_readNumbers sxOk 2 (pc' := 2) (L' := [some (.ref 1), some (.ref 102), some (.int (nI 0))]) (st' := []) (I' := up2 (up2 (up2 (up2 I 1 2 k0) 1 3 (nI p0)) 1 4 (nI e0)) 1 5 v0) (J' := J) (G' := va_up G 11 (G 11)) rfl ?_
  exact loop 1 0 e0 p0 _ _ _ _ [] (by omega) rfl (by omega) rfl (fun j hj => absurd hj (by omega)) (fun g hg => hg) (fun q hq => hq)
