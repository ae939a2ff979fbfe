set_option maxRecDepth 20000 in
theorem c_mostFrom {I : II} {J : JJ} {G : II} {P : Nat} (hP : I 2 7 = nI P) (hP5 : P ≤ 5) {Wk : Nat} (hW : I 2 6 = nI Wk) (hWk : Wk ≤ 12)  {w : Nat} (hw : w < 100) (hsil : ∀ s, s < P → nI 0 ≤ sil (G 24) s) : AMet SX mX3_mostFrom [.ref 8, .int (nI w)] I J G (fun r I' J' G' => r = some (.int (valO (plV (fun m w => wor (G 24) (G 16) (G 13 w) (G 12 w) P m) (fun w => setN (fun s => decide (G 17 s ≤ nI w)) P) Wk (Wk - w) (setN (fun s => decide (G 24 (3 + s) = nI 0)) P)))) ∧ I' = I ∧ J' = J ∧ ∃ b c v, G' = va_up (va_up (va_up G 31 b) 32 c) 33 v) := by
  have hp32 : 2 ^ P ≤ 32 := Nat.pow_le_pow_right (by decide) hP5
  have hpo : setN (fun s => decide (G 24 (3 + s) = nI 0)) P < 32 := Nat.lt_of_lt_of_le (setN_lt _ _) hp32
  have hpp : anN (setN (fun s => decide (G 24 (3 + s) = nI 0)) P) (setN (fun s => decide (G 24 (3 + s) = nI 0)) P) = 0 := an_and2 _ hpo _ hpo (Nat.and_self _)
  have hrd : ∀ w, setN (fun s => decide (G 17 s ≤ nI w)) P < 32 := fun w => Nat.lt_of_lt_of_le (setN_lt _ _) hp32
  refine amet_en oX3_mostFrom rfl rfl (L := [some (.ref 8), some (.int (nI w))]) rfl ?_
  by_cases hlt : w < Wk
  · refine aw_run oX3_mostFrom sxOk 4 (pc' := 8) (L' := [some (.ref 8), some (.int (nI w))]) (st' := [.int (I 2 6), .int (nI w)]) (I' := I) (J' := J) (G' := G) rfl ?_
    refine aw_ltN rfl hW (by omega) (by omega) (oX3_mostFrom.dec rfl) (tgt := 13) rfl (fun h8 => ?_) (fun h8 => absurd h8 (by omega))
    refine aw_run oX3_mostFrom sxOk 2 (pc' := 15) (L' := [some (.ref 8), some (.int (nI w))]) (st' := [.int (nI w), .ref 8]) (I' := I) (J' := J) (G' := G) rfl ?_
    refine aw_cVP (st := []) 8 [.int (nI w)] oX3_reckonFrom k3_39 rfl rfl rfl rfl rfl rfl rfl rfl (oX3_mostFrom.dec rfl) (c_reckonFrom hP (by omega) hW (by omega) (by omega) hsil) (fun r15 I15 J15 G15 hq15 => ?_)
    obtain ⟨hr, hI, hJ, b, c, v, hG, htb⟩ := hq15
    obtain rfl := hr.symm; obtain rfl := hI.symm; obtain rfl := hJ.symm; obtain rfl := hG.symm
    refine aw_eqS (st := []) rfl ?_
    refine aw_run oX3_mostFrom sxOk 7 (pc' := 30) (L' := [some (.ref 8), some (.int (nI w))]) (st' := [.ref 7, .int ((nI w) * (nI 32)), .ref 31]) (I' := I) (J' := J) (G' := va_up (va_up (va_up G 31 b) 32 c) 33 v) rfl ?_
    refine aw_cV (st := [.int ((nI w) * (nI 32)), .ref 31]) 7 [] oX0_inPort k3_43 rfl rfl rfl rfl rfl rfl rfl rfl (oX3_mostFrom.dec rfl) (c_inPort (I := I) (J := J) (G := va_up (va_up (va_up G 31 b) 32 c) 33 v) hP (by omega)) ?_
    refine aw_eqS (st := [.int (nI (setN (fun s => decide (G 24 (3 + s) = nI 0)) P)), .int ((nI w) * (nI 32)), .ref 31]) rfl ?_
    refine aw_run oX3_mostFrom sxOk 1 (pc' := 34) (L' := [some (.ref 8), some (.int (nI w))]) (st' := [.int (((nI w) * (nI 32)) + (nI (setN (fun s => decide (G 24 (3 + s) = nI 0)) P))), .ref 31]) (I' := I) (J' := J) (G' := va_up (va_up (va_up G 31 b) 32 c) 33 v) rfl ?_
    refine aw_iaN (w * 32 + (setN (fun s => decide (G 24 (3 + s) = nI 0)) P)) sxOk rfl (addN (mulN rfl rfl) rfl) (by omega) (oX3_mostFrom.dec rfl) ?_
    refine aw_eqS (st := [.int (b (w * 32 + (setN (fun s => decide (G 24 (3 + s) = nI 0)) P)))]) rfl ?_
    exact aw_iret rfl (oX3_mostFrom.dec rfl) (⟨by rw [(htb w (by omega) hlt _ hpo hpp).1], rfl, rfl, b, c, v, rfl⟩)
  · refine aw_run oX3_mostFrom sxOk 4 (pc' := 8) (L' := [some (.ref 8), some (.int (nI w))]) (st' := [.int (I 2 6), .int (nI w)]) (I' := I) (J' := J) (G' := G) rfl ?_
    refine aw_ltN rfl hW (by omega) (by omega) (oX3_mostFrom.dec rfl) (tgt := 13) rfl (fun h8 => absurd h8 (by omega)) (fun h8 => ?_)
    refine aw_run oX3_mostFrom sxOk 1 (pc' := 12) (L' := [some (.ref 8), some (.int (nI w))]) (st' := [.int (nI 0)]) (I' := I) (J' := J) (G' := G) rfl ?_
    exact aw_iret rfl (oX3_mostFrom.dec rfl) (⟨by rw [show Wk - w = 0 by omega]; rfl, rfl, rfl, _, _, _, (G3_id G).symm⟩)
set_option maxRecDepth 20000 in
theorem c_sailingIn {I : II} {J : JJ} {G : II} {P : Nat} (hP : I 2 7 = nI P) (hP5 : P ≤ 5) {Wk : Nat} (hW : I 2 6 = nI Wk) (hWk : Wk ≤ 12)  {w t : Nat} (ht : G 24 0 = nI t) (htw : t ≤ w) (hw : w < Wk) (hsil : ∀ s, s < P → nI 0 ≤ sil (G 24) s) : AMet SX mX3_sailingIn [.ref 8, .int (nI w)] I J G (fun r I' J' G' => r = some (.int (nI (chO (plV (fun m w => wor (G 24) (G 16) (G 13 w) (G 12 w) P m) (fun w => setN (fun s => decide (G 17 s ≤ nI w)) P) Wk (Wk - w) (lfP (fun w u => chO (plV (fun m w => wor (G 24) (G 16) (G 13 w) (G 12 w) P m) (fun w => setN (fun s => decide (G 17 s ≤ nI w)) P) Wk (Wk - w) u)) t (setN (fun s => decide (G 24 (3 + s) = nI 0)) P) (w - t)))))) ∧ I' = I ∧ J' = J ∧ ∃ b c v, G' = va_up (va_up (va_up G 31 b) 32 c) 33 v) := by
  have hp32 : 2 ^ P ≤ 32 := Nat.pow_le_pow_right (by decide) hP5
  have hpo : setN (fun s => decide (G 24 (3 + s) = nI 0)) P < 32 := Nat.lt_of_lt_of_le (setN_lt _ _) hp32
  have hpp : anN (setN (fun s => decide (G 24 (3 + s) = nI 0)) P) (setN (fun s => decide (G 24 (3 + s) = nI 0)) P) = 0 := an_and2 _ hpo _ hpo (Nat.and_self _)
  have hrd : ∀ w, setN (fun s => decide (G 17 s ≤ nI w)) P < 32 := fun w => Nat.lt_of_lt_of_le (setN_lt _ _) hp32
  refine amet_en oX3_sailingIn rfl rfl (L := [some (.ref 8), some (.int (nI w)), none, none]) rfl ?_
  have hCl : ∀ w u, u < 32 → (fun w u => chO (plV (fun m w => wor (G 24) (G 16) (G 13 w) (G 12 w) P m) (fun w => setN (fun s => decide (G 17 s ≤ nI w)) P) Wk (Wk - w) u)) w u < 32 := fun w u hu => chO_lt hrd _ u hu
  have loop : ∀ (b c v : Nat → Int32) (htb : ∀ w, t ≤ w → w < Wk → ∀ u, u < 32 → anN u (setN (fun s => decide (G 24 (3 + s) = nI 0)) P) = 0 → b (w * 32 + u) = valO (plV (fun m w => wor (G 24) (G 16) (G 13 w) (G 12 w) P m) (fun w => setN (fun s => decide (G 17 s ≤ nI w)) P) Wk (Wk - w) u) ∧ c (w * 32 + u) = nI (chO (plV (fun m w => wor (G 24) (G 16) (G 13 w) (G 12 w) P m) (fun w => setN (fun s => decide (G 17 s ≤ nI w)) P) Wk (Wk - w) u))) (n k : Nat) (x y : Int32), (t + k + n = w) → (x = nI (t + k)) → (y = nI (lfP (fun w u => chO (plV (fun m w => wor (G 24) (G 16) (G 13 w) (G 12 w) P m) (fun w => setN (fun s => decide (G 17 s ≤ nI w)) P) Wk (Wk - w) u)) t (setN (fun s => decide (G 24 (3 + s) = nI 0)) P) k)) → AW SX mX3_sailingIn 27 [some (.ref 8), some (.int (nI w)), some (.int y), some (.int x)] [] I J (va_up (va_up (va_up G 31 b) 32 c) 33 v) (fun r I' J' G' => r = some (.int (nI (chO (plV (fun m w => wor (G 24) (G 16) (G 13 w) (G 12 w) P m) (fun w => setN (fun s => decide (G 17 s ≤ nI w)) P) Wk (Wk - w) (lfP (fun w u => chO (plV (fun m w => wor (G 24) (G 16) (G 13 w) (G 12 w) P m) (fun w => setN (fun s => decide (G 17 s ≤ nI w)) P) Wk (Wk - w) u)) t (setN (fun s => decide (G 24 (3 + s) = nI 0)) P) (w - t)))))) ∧ I' = I ∧ J' = J ∧ ∃ b c v, G' = va_up (va_up (va_up G 31 b) 32 c) 33 v) := by
    intro b c v htb n
    induction n with
    | zero =>
      intro k x y hkn hx hy
      have hlf := lfP_ok (C := fun w u => chO (plV (fun m w => wor (G 24) (G 16) (G 13 w) (G 12 w) P m) (fun w => setN (fun s => decide (G 17 s ≤ nI w)) P) Wk (Wk - w) u)) (t := t) hpo hCl k
      refine aw_run oX3_sailingIn sxOk 2 (pc' := 29) (L' := [some (.ref 8), some (.int (nI w)), some (.int y), some (.int x)]) (st' := [.int (nI w), .int x]) (I' := I) (J' := J) (G' := va_up (va_up (va_up G 31 b) 32 c) 33 v) rfl ?_
      refine aw_geN hx rfl (by omega) (by omega) (oX3_sailingIn.dec rfl) (tgt := 54) rfl (fun h29 => ?_) (fun h29 => absurd h29 (by omega))
      refine aw_run oX3_sailingIn sxOk 7 (pc' := 64) (L' := [some (.ref 8), some (.int (nI w)), some (.int y), some (.int x)]) (st' := [.int (((nI w) * (nI 32)) + y), .ref 32]) (I' := I) (J' := J) (G' := va_up (va_up (va_up G 31 b) 32 c) 33 v) rfl ?_
      refine aw_iaN (w * 32 + (lfP (fun w u => chO (plV (fun m w => wor (G 24) (G 16) (G 13 w) (G 12 w) P m) (fun w => setN (fun s => decide (G 17 s ≤ nI w)) P) Wk (Wk - w) u)) t (setN (fun s => decide (G 24 (3 + s) = nI 0)) P) k)) sxOk rfl (addN (mulN rfl rfl) hy) (by have := hlf.1; omega) (oX3_sailingIn.dec rfl) ?_
      refine aw_eqS (st := [.int (c (w * 32 + (lfP (fun w u => chO (plV (fun m w => wor (G 24) (G 16) (G 13 w) (G 12 w) P m) (fun w => setN (fun s => decide (G 17 s ≤ nI w)) P) Wk (Wk - w) u)) t (setN (fun s => decide (G 24 (3 + s) = nI 0)) P) k)))]) rfl ?_
      exact aw_iret rfl (oX3_sailingIn.dec rfl) (⟨by rw [(htb w (by omega) (by omega) _ hlf.1 hlf.2).2, show k = w - t by omega], rfl, rfl, b, c, v, rfl⟩)
    | succ n ih =>
      intro k x y hkn hx hy
      have hlf := lfP_ok (C := fun w u => chO (plV (fun m w => wor (G 24) (G 16) (G 13 w) (G 12 w) P m) (fun w => setN (fun s => decide (G 17 s ≤ nI w)) P) Wk (Wk - w) u)) (t := t) hpo hCl k
      have hck : c ((t + k) * 32 + (lfP (fun w u => chO (plV (fun m w => wor (G 24) (G 16) (G 13 w) (G 12 w) P m) (fun w => setN (fun s => decide (G 17 s ≤ nI w)) P) Wk (Wk - w) u)) t (setN (fun s => decide (G 24 (3 + s) = nI 0)) P) k)) = nI (chO (plV (fun m w => wor (G 24) (G 16) (G 13 w) (G 12 w) P m) (fun w => setN (fun s => decide (G 17 s ≤ nI w)) P) Wk (Wk - (t + k)) (lfP (fun w u => chO (plV (fun m w => wor (G 24) (G 16) (G 13 w) (G 12 w) P m) (fun w => setN (fun s => decide (G 17 s ≤ nI w)) P) Wk (Wk - w) u)) t (setN (fun s => decide (G 24 (3 + s) = nI 0)) P) k))) := (htb (t + k) (by omega) (by omega) _ hlf.1 hlf.2).2
      have hcl : chO (plV (fun m w => wor (G 24) (G 16) (G 13 w) (G 12 w) P m) (fun w => setN (fun s => decide (G 17 s ≤ nI w)) P) Wk (Wk - (t + k)) (lfP (fun w u => chO (plV (fun m w => wor (G 24) (G 16) (G 13 w) (G 12 w) P m) (fun w => setN (fun s => decide (G 17 s ≤ nI w)) P) Wk (Wk - w) u)) t (setN (fun s => decide (G 24 (3 + s) = nI 0)) P) k)) < 32 := chO_lt hrd _ _ hlf.1
      refine aw_run oX3_sailingIn sxOk 2 (pc' := 29) (L' := [some (.ref 8), some (.int (nI w)), some (.int y), some (.int x)]) (st' := [.int (nI w), .int x]) (I' := I) (J' := J) (G' := va_up (va_up (va_up G 31 b) 32 c) 33 v) rfl ?_
      refine aw_geN hx rfl (by omega) (by omega) (oX3_sailingIn.dec rfl) (tgt := 54) rfl (fun h29 => absurd h29 (by omega)) (fun h29 => ?_)
      refine aw_run oX3_sailingIn sxOk 8 (pc' := 43) (L' := [some (.ref 8), some (.int (nI w)), some (.int y), some (.int x)]) (st' := [.int ((x * (nI 32)) + y), .ref 32, .int y]) (I' := I) (J' := J) (G' := va_up (va_up (va_up G 31 b) 32 c) 33 v) rfl ?_
      refine aw_iaN ((t + k) * 32 + (lfP (fun w u => chO (plV (fun m w => wor (G 24) (G 16) (G 13 w) (G 12 w) P m) (fun w => setN (fun s => decide (G 17 s ≤ nI w)) P) Wk (Wk - w) u)) t (setN (fun s => decide (G 24 (3 + s) = nI 0)) P) k)) sxOk rfl (addN (mulN hx rfl) hy) (by have := hlf.1; omega) (oX3_sailingIn.dec rfl) ?_
      refine aw_eqS (st := [.int (c ((t + k) * 32 + (lfP (fun w u => chO (plV (fun m w => wor (G 24) (G 16) (G 13 w) (G 12 w) P m) (fun w => setN (fun s => decide (G 17 s ≤ nI w)) P) Wk (Wk - w) u)) t (setN (fun s => decide (G 24 (3 + s) = nI 0)) P) k))), .int y]) rfl ?_
      refine aw_run oX3_sailingIn sxOk 6 (pc' := 27) (L' := [some (.ref 8), some (.int (nI w)), some (.int (y &&& ((c ((t + k) * 32 + (lfP (fun w u => chO (plV (fun m w => wor (G 24) (G 16) (G 13 w) (G 12 w) P m) (fun w => setN (fun s => decide (G 17 s ≤ nI w)) P) Wk (Wk - w) u)) t (setN (fun s => decide (G 24 (3 + s) = nI 0)) P) k))) ^^^ (-nI 1)))), some (.int (x + (nI 1)))]) (st' := []) (I' := I) (J' := J) (G' := va_up (va_up (va_up G 31 b) 32 c) 33 v) rfl ?_
      exact ih (k + 1) _ _ (by omega) (show _ = nI (t + k + 1) from addN hx rfl) (anNI hy hck (by have := hlf.1; omega) (by omega))
  refine aw_run oX3_sailingIn sxOk 3 (pc' := 5) (L' := [some (.ref 8), some (.int (nI w)), none, none]) (st' := [.ref 4, .ref 8]) (I' := I) (J' := J) (G' := G) rfl ?_
  refine aw_cV (st := [.ref 8]) 4 [] oX2_theWeek k3_49 rfl rfl rfl rfl rfl rfl rfl rfl (oX3_sailingIn.dec rfl) c_theWeek ?_
  refine aw_eqS (st := [.int (G 24 0), .ref 8]) rfl ?_
  refine aw_eqS (st := [.int (nI t), .ref 8]) (by rw [show G 24 0 = nI t from ht]) ?_
  refine aw_cVP (st := []) 8 [.int (nI t)] oX3_reckonFrom k3_39 rfl rfl rfl rfl rfl rfl rfl rfl (oX3_sailingIn.dec rfl) (c_reckonFrom hP (by omega) hW (by omega) (by omega) hsil) (fun r8 I8 J8 G8 hq8 => ?_)
  obtain ⟨hr, hI, hJ, b, c, v, hG, htb⟩ := hq8
  obtain rfl := hr.symm; obtain rfl := hI.symm; obtain rfl := hJ.symm; obtain rfl := hG.symm
  refine aw_eqS (st := []) rfl ?_
  refine aw_run oX3_sailingIn sxOk 2 (pc' := 15) (L' := [some (.ref 8), some (.int (nI w)), none, none]) (st' := [.ref 7]) (I' := I) (J' := J) (G' := va_up (va_up (va_up G 31 b) 32 c) 33 v) rfl ?_
  refine aw_cV (st := []) 7 [] oX0_inPort k3_43 rfl rfl rfl rfl rfl rfl rfl rfl (oX3_sailingIn.dec rfl) (c_inPort (I := I) (J := J) (G := va_up (va_up (va_up G 31 b) 32 c) 33 v) hP (by omega)) ?_
  refine aw_eqS (st := [.int (nI (setN (fun s => decide (G 24 (3 + s) = nI 0)) P))]) rfl ?_
  refine aw_run oX3_sailingIn sxOk 3 (pc' := 23) (L' := [some (.ref 8), some (.int (nI w)), some (.int (nI (setN (fun s => decide (G 24 (3 + s) = nI 0)) P))), none]) (st' := [.ref 4]) (I' := I) (J' := J) (G' := va_up (va_up (va_up G 31 b) 32 c) 33 v) rfl ?_
  refine aw_cV (st := []) 4 [] oX2_theWeek k3_49 rfl rfl rfl rfl rfl rfl rfl rfl (oX3_sailingIn.dec rfl) (c_theWeek (I := I) (J := J) (G := va_up (va_up (va_up G 31 b) 32 c) 33 v) ) ?_
  refine aw_eqS (st := [.int (G 24 0)]) rfl ?_
  refine aw_run oX3_sailingIn sxOk 1 (pc' := 27) (L' := [some (.ref 8), some (.int (nI w)), some (.int (nI (setN (fun s => decide (G 24 (3 + s) = nI 0)) P))), some (.int (G 24 0))]) (st' := []) (I' := I) (J' := J) (G' := va_up (va_up (va_up G 31 b) 32 c) 33 v) rfl ?_
  exact loop b c v htb (w - t) 0 _ _ (by omega) ht rfl
set_option maxRecDepth 20000 in
theorem c_plan_all {I : II} {J : JJ} {G : II} {P : Nat} (hP : I 2 7 = nI P) (hP5 : P ≤ 5) {Wk : Nat} (hW : I 2 6 = nI Wk) (hWk : Wk ≤ 12) {t : Nat} (ht : G 24 0 = nI t) (ht12 : t ≤ 12) (hsil : ∀ s, s < P → nI 0 ≤ sil (G 24) s) : AMet SX mX6_plan [.ref 0, .int (-nI 1)] I J G (fun r I' J' G' => r = some (.int (valO (plV (fun m w => wor (G 24) (G 16) (G 13 w) (G 12 w) P m) (fun w => setN (fun s => decide (G 17 s ≤ nI w)) P) Wk (Wk - t) (setN (fun s => decide (G 24 (3 + s) = nI 0)) P)))) ∧ I' = I ∧ J' = J ∧ ∃ b c v, G' = va_up (va_up (va_up G 31 b) 32 c) 33 v) := by
  refine amet_en oX6_plan rfl rfl (L := [some (.ref 0), some (.int (-nI 1))]) rfl ?_
  refine aw_run oX6_plan sxOk 2 (pc' := 2) (L' := [some (.ref 0), some (.int (-nI 1))]) (st' := [.int (-nI 1), .int (-nI 1)]) (I' := I) (J' := J) (G' := G) rfl ?_
  refine aw_icmp_ne (oX6_plan.dec rfl) (tgt := 20) rfl (fun h2 => by first | exact absurd h2 (by assumption) | exact absurd (by assumption) h2 | (exfalso; revert h2; decide) | simp_all) (fun h2 => ?_)
  refine aw_run oX6_plan sxOk 4 (pc' := 13) (L' := [some (.ref 0), some (.int (-nI 1))]) (st' := [.ref 4, .ref 8]) (I' := I) (J' := J) (G' := G) rfl ?_
  refine aw_cV (st := [.ref 8]) 4 [] oX2_theWeek k6_126 rfl rfl rfl rfl rfl rfl rfl rfl (oX6_plan.dec rfl) c_theWeek ?_
  refine aw_eqS (st := [.int (G 24 0), .ref 8]) rfl ?_
  refine aw_eqS (st := [.int (nI t), .ref 8]) (by rw [show G 24 0 = nI t from ht]) ?_
  refine aw_cVP (st := []) 8 [.int (nI t)] oX3_mostFrom k6_181 rfl rfl rfl rfl rfl rfl rfl rfl (oX6_plan.dec rfl) (c_mostFrom hP (by omega) hW (by omega) (by omega) hsil) (fun r16 I16 J16 G16 hq16 => ?_)
  obtain ⟨hr, hI, hJ, b, c, v, hG⟩ := hq16
  obtain rfl := hr.symm; obtain rfl := hI.symm; obtain rfl := hJ.symm; obtain rfl := hG.symm
  refine aw_eqS (st := [.int (valO (plV (fun m w => wor (G 24) (G 16) (G 13 w) (G 12 w) P m) (fun w => setN (fun s => decide (G 17 s ≤ nI w)) P) Wk (Wk - t) (setN (fun s => decide (G 24 (3 + s) = nI 0)) P)))]) rfl ?_
  exact aw_iret rfl (oX6_plan.dec rfl) (⟨rfl, rfl, rfl, b, c, v, rfl⟩)
set_option maxRecDepth 20000 in
theorem c_plan_ok {I : II} {J : JJ} {G : II} {P : Nat} (hP : I 2 7 = nI P) (hP5 : P ≤ 5) {Wk : Nat} (hW : I 2 6 = nI Wk) (hWk : Wk ≤ 12) {t : Nat} (ht : G 24 0 = nI t) (ht12 : t ≤ 12) {w : Nat} (htw : t ≤ w) (hw : w < Wk) (hsil : ∀ s, s < P → nI 0 ≤ sil (G 24) s) : AMet SX mX6_plan [.ref 0, .int (nI w)] I J G (fun r I' J' G' => r = some (.int (nI (chO (plV (fun m w => wor (G 24) (G 16) (G 13 w) (G 12 w) P m) (fun w => setN (fun s => decide (G 17 s ≤ nI w)) P) Wk (Wk - w) (lfP (fun w u => chO (plV (fun m w => wor (G 24) (G 16) (G 13 w) (G 12 w) P m) (fun w => setN (fun s => decide (G 17 s ≤ nI w)) P) Wk (Wk - w) u)) t (setN (fun s => decide (G 24 (3 + s) = nI 0)) P) (w - t)))))) ∧ I' = I ∧ J' = J ∧ ∃ b c v, G' = va_up (va_up (va_up G 31 b) 32 c) 33 v) := by
  refine amet_en oX6_plan rfl rfl (L := [some (.ref 0), some (.int (nI w))]) rfl ?_
  refine aw_run oX6_plan sxOk 2 (pc' := 2) (L' := [some (.ref 0), some (.int (nI w))]) (st' := [.int (-nI 1), .int (nI w)]) (I' := I) (J' := J) (G' := G) rfl ?_
  refine aw_icmp_ne (oX6_plan.dec rfl) (tgt := 20) rfl (fun h2 => ?_) (fun h2 => absurd h2 (nI_nm1 (by omega)))
  refine aw_run oX6_plan sxOk 3 (pc' := 25) (L' := [some (.ref 0), some (.int (nI w))]) (st' := [.int (nI w), .ref 2]) (I' := I) (J' := J) (G' := G) rfl ?_
  refine aw_cV (st := []) 2 [.int (nI w)] oX4_hasWeek k6_87 rfl rfl rfl rfl rfl rfl rfl rfl (oX6_plan.dec rfl) (c_hasWeek_t hW (by omega) (by omega)) ?_
  refine aw_eqS (st := [.int (nI 1)]) rfl ?_
  refine aw_0eqN rfl (by omega) (oX6_plan.dec rfl) (tgt := 42) rfl (fun h28 => absurd h28 (by omega)) (fun h28 => ?_)
  refine aw_run oX6_plan sxOk 3 (pc' := 36) (L' := [some (.ref 0), some (.int (nI w))]) (st' := [.ref 4, .int (nI w)]) (I' := I) (J' := J) (G' := G) rfl ?_
  refine aw_cV (st := [.int (nI w)]) 4 [] oX2_theWeek k6_126 rfl rfl rfl rfl rfl rfl rfl rfl (oX6_plan.dec rfl) c_theWeek ?_
  refine aw_eqS (st := [.int (G 24 0), .int (nI w)]) rfl ?_
  refine aw_geN rfl ht (by omega) (by omega) (oX6_plan.dec rfl) (tgt := 44) rfl (fun h39 => ?_) (fun h39 => absurd h39 (by omega))
  refine aw_run oX6_plan sxOk 3 (pc' := 49) (L' := [some (.ref 0), some (.int (nI w))]) (st' := [.int (nI w), .ref 8]) (I' := I) (J' := J) (G' := G) rfl ?_
  refine aw_cVP (st := []) 8 [.int (nI w)] oX3_sailingIn k6_184 rfl rfl rfl rfl rfl rfl rfl rfl (oX6_plan.dec rfl) (c_sailingIn hP (by omega) hW (by omega) ht (by omega) (by omega) hsil) (fun r49 I49 J49 G49 hq49 => ?_)
  obtain ⟨hr, hI, hJ, b, c, v, hG⟩ := hq49
  obtain rfl := hr.symm; obtain rfl := hI.symm; obtain rfl := hJ.symm; obtain rfl := hG.symm
  refine aw_eqS (st := [.int (nI (chO (plV (fun m w => wor (G 24) (G 16) (G 13 w) (G 12 w) P m) (fun w => setN (fun s => decide (G 17 s ≤ nI w)) P) Wk (Wk - w) (lfP (fun w u => chO (plV (fun m w => wor (G 24) (G 16) (G 13 w) (G 12 w) P m) (fun w => setN (fun s => decide (G 17 s ≤ nI w)) P) Wk (Wk - w) u)) t (setN (fun s => decide (G 24 (3 + s) = nI 0)) P) (w - t)))))]) rfl ?_
  exact aw_iret rfl (oX6_plan.dec rfl) (⟨rfl, rfl, rfl, b, c, v, rfl⟩)
set_option maxRecDepth 20000 in
theorem c_plan_early {I : II} {J : JJ} {G : II} {P : Nat} (hP : I 2 7 = nI P) (hP5 : P ≤ 5) {Wk : Nat} (hW : I 2 6 = nI Wk) (hWk : Wk ≤ 12) {t : Nat} (ht : G 24 0 = nI t) (ht12 : t ≤ 12) {w : Nat} (htw : w < t) (hw : w < Wk) : AMet SX mX6_plan [.ref 0, .int (nI w)] I J G (PE (some (.int (-nI 1))) I J G) := by
  refine amet_en oX6_plan rfl rfl (L := [some (.ref 0), some (.int (nI w))]) rfl ?_
  refine aw_run oX6_plan sxOk 2 (pc' := 2) (L' := [some (.ref 0), some (.int (nI w))]) (st' := [.int (-nI 1), .int (nI w)]) (I' := I) (J' := J) (G' := G) rfl ?_
  refine aw_icmp_ne (oX6_plan.dec rfl) (tgt := 20) rfl (fun h2 => ?_) (fun h2 => absurd h2 (nI_nm1 (by omega)))
  refine aw_run oX6_plan sxOk 3 (pc' := 25) (L' := [some (.ref 0), some (.int (nI w))]) (st' := [.int (nI w), .ref 2]) (I' := I) (J' := J) (G' := G) rfl ?_
  refine aw_cV (st := []) 2 [.int (nI w)] oX4_hasWeek k6_87 rfl rfl rfl rfl rfl rfl rfl rfl (oX6_plan.dec rfl) (c_hasWeek_t hW (by omega) (by omega)) ?_
  refine aw_eqS (st := [.int (nI 1)]) rfl ?_
  refine aw_0eqN rfl (by omega) (oX6_plan.dec rfl) (tgt := 42) rfl (fun h28 => absurd h28 (by omega)) (fun h28 => ?_)
  refine aw_run oX6_plan sxOk 3 (pc' := 36) (L' := [some (.ref 0), some (.int (nI w))]) (st' := [.ref 4, .int (nI w)]) (I' := I) (J' := J) (G' := G) rfl ?_
  refine aw_cV (st := [.int (nI w)]) 4 [] oX2_theWeek k6_126 rfl rfl rfl rfl rfl rfl rfl rfl (oX6_plan.dec rfl) c_theWeek ?_
  refine aw_eqS (st := [.int (G 24 0), .int (nI w)]) rfl ?_
  refine aw_geN rfl ht (by omega) (by omega) (oX6_plan.dec rfl) (tgt := 44) rfl (fun h39 => absurd h39 (by omega)) (fun h39 => ?_)
  refine aw_run oX6_plan sxOk 1 (pc' := 43) (L' := [some (.ref 0), some (.int (nI w))]) (st' := [.int (-nI 1)]) (I' := I) (J' := J) (G' := G) rfl ?_
  exact aw_iret rfl (oX6_plan.dec rfl) pe_rfl
set_option maxRecDepth 20000 in
theorem c_plan_bad {I : II} {J : JJ} {G : II} {Wk : Nat} (hW : I 2 6 = nI Wk) (hWk : Wk ≤ 12) {x : Int32} (hx : notIn x Wk) (hx1 : ¬ x = -nI 1) : AMet SX mX6_plan [.ref 0, .int x] I J G (PE (some (.int (-nI 1))) I J G) := by
  refine amet_en oX6_plan rfl rfl (L := [some (.ref 0), some (.int x)]) rfl ?_
  refine aw_run oX6_plan sxOk 2 (pc' := 2) (L' := [some (.ref 0), some (.int x)]) (st' := [.int (-nI 1), .int x]) (I' := I) (J' := J) (G' := G) rfl ?_
  refine aw_icmp_ne (oX6_plan.dec rfl) (tgt := 20) rfl (fun h2 => ?_) (fun h2 => by first | exact absurd h2 (by assumption) | exact absurd (by assumption) h2 | (exfalso; revert h2; decide) | simp_all)
  refine aw_run oX6_plan sxOk 3 (pc' := 25) (L' := [some (.ref 0), some (.int x)]) (st' := [.int x, .ref 2]) (I' := I) (J' := J) (G' := G) rfl ?_
  refine aw_cV (st := []) 2 [.int x] oX4_hasWeek k6_87 rfl rfl rfl rfl rfl rfl rfl rfl (oX6_plan.dec rfl) (c_hasWeek_f hW (by omega) (by assumption)) ?_
  refine aw_eqS (st := [.int (nI 0)]) rfl ?_
  refine aw_0eqN rfl (by omega) (oX6_plan.dec rfl) (tgt := 42) rfl (fun h28 => ?_) (fun h28 => absurd h28 (by omega))
  refine aw_run oX6_plan sxOk 1 (pc' := 43) (L' := [some (.ref 0), some (.int x)]) (st' := [.int (-nI 1)]) (I' := I) (J' := J) (G' := G) rfl ?_
  exact aw_iret rfl (oX6_plan.dec rfl) pe_rfl
set_option maxRecDepth 20000 in
theorem c_late {I : II} {J : JJ} {G : II} {P : Nat} (hP : I 2 7 = nI P) (hP5 : P ≤ 5) {Wk : Nat} (hW : I 2 6 = nI Wk) (hWk : Wk ≤ 12) {t : Nat} (ht : G 24 0 = nI t) (ht12 : t ≤ 12) (hsil : ∀ s, s < P → nI 0 ≤ sil (G 24) s) : AMet SX mX6_late [.ref 0] I J G (fun r I' J' G' => r = some (.int (valO (plV (fun m w => wor (G 24) (G 16) (G 13 w) (G 12 w) P m) (fun w => setN (fun s => decide (G 17 s ≤ nI w)) P) Wk (Wk - (t + 1)) (setN (fun s => decide (G 24 (3 + s) = nI 0)) P)))) ∧ I' = I ∧ J' = J ∧ ∃ b c v, G' = va_up (va_up (va_up G 31 b) 32 c) 33 v) := by
  refine amet_en oX6_late rfl rfl (L := [some (.ref 0)]) rfl ?_
  refine aw_run oX6_late sxOk 4 (pc' := 8) (L' := [some (.ref 0)]) (st' := [.ref 4, .ref 8]) (I' := I) (J' := J) (G' := G) rfl ?_
  refine aw_cV (st := [.ref 8]) 4 [] oX2_theWeek k6_126 rfl rfl rfl rfl rfl rfl rfl rfl (oX6_late.dec rfl) c_theWeek ?_
  refine aw_eqS (st := [.int (G 24 0), .ref 8]) rfl ?_
  refine aw_run oX6_late sxOk 2 (pc' := 13) (L' := [some (.ref 0)]) (st' := [.int ((G 24 0) + (nI 1)), .ref 8]) (I' := I) (J' := J) (G' := G) rfl ?_
  refine aw_eqS (st := [.int (nI (t + 1)), .ref 8]) (by rw [show (G 24 0) + (nI 1) = nI (t + 1) from addN ht rfl]) ?_
  refine aw_cVP (st := []) 8 [.int (nI (t + 1))] oX3_mostFrom k6_181 rfl rfl rfl rfl rfl rfl rfl rfl (oX6_late.dec rfl) (c_mostFrom hP (by omega) hW (by omega) (by omega) hsil) (fun r13 I13 J13 G13 hq13 => ?_)
  obtain ⟨hr, hI, hJ, b, c, v, hG⟩ := hq13
  obtain rfl := hr.symm; obtain rfl := hI.symm; obtain rfl := hJ.symm; obtain rfl := hG.symm
  refine aw_eqS (st := [.int (valO (plV (fun m w => wor (G 24) (G 16) (G 13 w) (G 12 w) P m) (fun w => setN (fun s => decide (G 17 s ≤ nI w)) P) Wk (Wk - (t + 1)) (setN (fun s => decide (G 24 (3 + s) = nI 0)) P)))]) rfl ?_
  exact aw_iret rfl (oX6_late.dec rfl) (⟨rfl, rfl, rfl, b, c, v, rfl⟩)
