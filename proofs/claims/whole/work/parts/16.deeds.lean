set_option maxRecDepth 20000 in
theorem c_remember {I : II} {J : JJ} {G : II} {K : Nat} (hK : I 4 2 = nI K) (hK10 : K ≤ 10) : AMet SX mX2_remember [.ref 4] I J G (PE none (up2 I 4 2 (nI (remK K))) J (va_up G 25 (remP (G 24) (G 25) K))) := by
  refine amet_en oX2_remember rfl rfl (L := [some (.ref 4)]) rfl ?_
  by_cases h10 : K = 10
  · refine aw_run oX2_remember sxOk 3 (pc' := 6) (L' := [some (.ref 4)]) (st' := [.int (nI 10), .int (I 4 2)]) (I' := I) (J' := J) (G' := G) rfl ?_
    refine aw_ltN hK rfl (by omega) (by omega) (oX2_remember.dec rfl) (tgt := 32) rfl (fun h6 => absurd h6 (by omega)) (fun h6 => ?_)
    refine aw_run oX2_remember sxOk 7 (pc' := 23) (L' := [some (.ref 4)]) (st' := [.int (nI 162), .int (nI 0), .ref 25, .int (nI 18), .ref 25]) (I' := I) (J' := J) (G' := G) rfl ?_
    refine aw_copy (k0 := 25) (k1 := 25) (sp := nI 18) (dp := nI 0) (n := nI 162) n2_37 (by decide) rfl rfl (by decide) (by decide) (by decide) (by decide) (by decide) (Nat.le_of_ble_eq_true rfl) (oX2_remember.dec rfl) ?_
    refine aw_eqG (G' := va_up G 25 (va_cpy (G 25) (G 25) (nI 18).toNatClampNeg (nI 0).toNatClampNeg (nI 162).toNatClampNeg)) (rfl) ?_
    refine aw_eqG (G' := va_up G 25 (va_cpy (G 25) (G 25) 18 0 162)) (rfl) ?_
    refine aw_run oX2_remember sxOk 13 (pc' := 50) (L' := [some (.ref 4)]) (st' := [.int (nI 18), .int ((nI 9) * (nI 18)), .ref 25, .int (nI 0), .ref 24]) (I' := up2 I 4 2 (nI 9)) (J' := J) (G' := va_up G 25 (va_cpy (G 25) (G 25) 18 0 162)) rfl ?_
    refine aw_copy (k0 := 24) (k1 := 25) (sp := nI 0) (dp := (nI 9) * (nI 18)) (n := nI 18) n2_37 (by decide) rfl rfl (by decide) (by decide) (by decide) (by decide) (by decide) (Nat.le_of_ble_eq_true rfl) (oX2_remember.dec rfl) ?_
    refine aw_eqG (G' := va_up G 25 (va_cpy (G 24) (va_cpy (G 25) (G 25) 18 0 162) (nI 0).toNatClampNeg ((nI 9) * (nI 18)).toNatClampNeg (nI 18).toNatClampNeg)) (bx_uu _ _ _ _) ?_
    refine aw_eqG (G' := va_up G 25 (va_cpy (G 24) (va_cpy (G 25) (G 25) 18 0 162) 0 (9 * 18) 18)) (by rw [show ((nI 9) * (nI 18)).toNatClampNeg = 9 * 18 from clN (mulN rfl rfl) (by omega)]; try rfl) ?_
    refine aw_run oX2_remember sxOk 6 (pc' := 63) (L' := [some (.ref 4)]) (st' := []) (I' := up2 (up2 I 4 2 (nI 9)) 4 2 ((nI 9) + (nI 1))) (J' := J) (G' := va_up G 25 (va_cpy (G 24) (va_cpy (G 25) (G 25) 18 0 162) 0 (9 * 18) 18)) rfl ?_
    refine aw_eqI (I' := up2 I 4 2 ((nI 9) + (nI 1))) (by funext q z; simp only [up2]; repeat' split; all_goals first | rfl | (exfalso; omega) | simp_all) ?_
    exact aw_vret rfl (oX2_remember.dec rfl) (⟨rfl, by rw [show remK K = 10 from if_pos h10]; rfl, rfl, by rw [show remP (G 24) (G 25) K = _ from if_pos h10]⟩)
  · refine aw_run oX2_remember sxOk 3 (pc' := 6) (L' := [some (.ref 4)]) (st' := [.int (nI 10), .int (I 4 2)]) (I' := I) (J' := J) (G' := G) rfl ?_
    refine aw_ltN hK rfl (by omega) (by omega) (oX2_remember.dec rfl) (tgt := 32) rfl (fun h6 => ?_) (fun h6 => absurd h6 (by omega))
    refine aw_run oX2_remember sxOk 10 (pc' := 50) (L' := [some (.ref 4)]) (st' := [.int (nI 18), .int ((I 4 2) * (nI 18)), .ref 25, .int (nI 0), .ref 24]) (I' := I) (J' := J) (G' := G) rfl ?_
    refine aw_copy (k0 := 24) (k1 := 25) (sp := nI 0) (dp := (I 4 2) * (nI 18)) (n := nI 18) n2_37 (by decide) rfl rfl (by decide) (by rw [mulN hK rfl]; exact nI_pos (by omega)) (by decide) (by decide) (by rw [clN (mulN hK rfl) (by omega)]; show K * 18 + 18 ≤ 180; omega) (Nat.le_of_ble_eq_true rfl) (oX2_remember.dec rfl) ?_
    refine aw_eqG (G' := va_up G 25 (va_cpy (G 24) (G 25) (nI 0).toNatClampNeg ((I 4 2) * (nI 18)).toNatClampNeg (nI 18).toNatClampNeg)) (rfl) ?_
    refine aw_eqG (G' := va_up G 25 (va_cpy (G 24) (G 25) 0 (K * 18) 18)) (by rw [show ((I 4 2) * (nI 18)).toNatClampNeg = K * 18 from clN (mulN hK rfl) (by omega)]; try rfl) ?_
    refine aw_run oX2_remember sxOk 6 (pc' := 63) (L' := [some (.ref 4)]) (st' := []) (I' := up2 I 4 2 ((I 4 2) + (nI 1))) (J' := J) (G' := va_up G 25 (va_cpy (G 24) (G 25) 0 (K * 18) 18)) rfl ?_
    exact aw_vret rfl (oX2_remember.dec rfl) (⟨rfl, by rw [show remK K = K + 1 from if_neg h10, show I 4 2 + nI 1 = nI (K + 1) from addN hK rfl], rfl, by rw [show remP (G 24) (G 25) K = _ from if_neg h10]⟩)
set_option maxRecDepth 20000 in
theorem c_goBack {I : II} {J : JJ} {G : II} {K : Nat} (hK : I 4 2 = nI K) (hK10 : K ≤ 10) (h1 : 1 ≤ K) : AMet SX mX2_goBack [.ref 4] I J G (PE none (up2 I 4 2 (nI (K - 1))) J (va_up G 24 (va_cpy (G 25) (G 24) ((K - 1) * 18) 0 18))) := by
  refine amet_en oX2_goBack rfl rfl (L := [some (.ref 4)]) rfl ?_
  refine aw_run oX2_goBack sxOk 2 (pc' := 4) (L' := [some (.ref 4)]) (st' := [.int (I 4 2)]) (I' := I) (J' := J) (G' := G) rfl ?_
  refine aw_0leN hK (by omega) (oX2_goBack.dec rfl) (tgt := 38) rfl (fun h4 => absurd h4 (by omega)) (fun h4 => ?_)
  refine aw_run oX2_goBack sxOk 16 (pc' := 35) (L' := [some (.ref 4)]) (st' := [.int (nI 18), .int (nI 0), .ref 24, .int (((I 4 2) - (nI 1)) * (nI 18)), .ref 25]) (I' := up2 I 4 2 ((I 4 2) - (nI 1))) (J' := J) (G' := G) rfl ?_
  refine aw_copy (k0 := 25) (k1 := 24) (sp := ((I 4 2) - (nI 1)) * (nI 18)) (dp := nI 0) (n := nI 18) n2_37 (by decide) rfl rfl (by rw [mulN (subN hK rfl (by omega)) rfl]; exact nI_pos (by omega)) (by decide) (by decide) (by rw [clN (mulN (subN hK rfl (by omega)) rfl) (by omega)]; show (K - 1) * 18 + 18 ≤ 180; omega) (by decide) (Nat.le_of_ble_eq_true rfl) (oX2_goBack.dec rfl) ?_
  refine aw_eqG (G' := va_up G 24 (va_cpy (G 25) (G 24) (((I 4 2) - (nI 1)) * (nI 18)).toNatClampNeg (nI 0).toNatClampNeg (nI 18).toNatClampNeg)) (rfl) ?_
  refine aw_eqG (G' := va_up G 24 (va_cpy (G 25) (G 24) ((K - 1) * 18) 0 18)) (by rw [show (((I 4 2) - (nI 1)) * (nI 18)).toNatClampNeg = (K - 1) * 18 from clN (mulN (subN hK rfl (by omega)) rfl) (by omega)]; try rfl) ?_
  exact aw_vret rfl (oX2_goBack.dec rfl) (⟨rfl, by rw [show I 4 2 - nI 1 = nI (K - 1) from subN hK rfl (by omega)], rfl, rfl⟩)
set_option maxRecDepth 20000 in
theorem c_copyLog_54 {I : II} {J : JJ} {G : II}  : AMet SX mX2_copyFrom [.ref 5, .ref 4] I J G (PE none (up2 I 5 2 (I 4 2)) J (va_up (va_up G 26 (va_cpy (G 24) (G 26) 0 0 18)) 27 (va_cpy (G 25) (G 27) 0 0 180))) := by
  refine amet_en oX2_copyFrom rfl rfl (L := [some (.ref 5), some (.ref 4)]) rfl ?_
  refine aw_run oX2_copyFrom sxOk 7 (pc' := 12) (L' := [some (.ref 5), some (.ref 4)]) (st' := [.int (nI 18), .int (nI 0), .ref 26, .int (nI 0), .ref 24]) (I' := I) (J' := J) (G' := G) rfl ?_
  refine aw_copy (k0 := 24) (k1 := 26) (sp := nI 0) (dp := nI 0) (n := nI 18) n2_37 (by decide) rfl rfl (by decide) (by decide) (by decide) (by decide) (by decide) (Nat.le_of_ble_eq_true rfl) (oX2_copyFrom.dec rfl) ?_
  refine aw_eqG (G' := va_up G 26 (va_cpy (G 24) (G 26) (nI 0).toNatClampNeg (nI 0).toNatClampNeg (nI 18).toNatClampNeg)) (rfl) ?_
  refine aw_eqG (G' := va_up G 26 (va_cpy (G 24) (G 26) 0 0 18)) (rfl) ?_
  refine aw_run oX2_copyFrom sxOk 7 (pc' := 28) (L' := [some (.ref 5), some (.ref 4)]) (st' := [.int (nI 180), .int (nI 0), .ref 27, .int (nI 0), .ref 25]) (I' := I) (J' := J) (G' := va_up G 26 (va_cpy (G 24) (G 26) 0 0 18)) rfl ?_
  refine aw_copy (k0 := 25) (k1 := 27) (sp := nI 0) (dp := nI 0) (n := nI 180) n2_37 (by decide) rfl rfl (by decide) (by decide) (by decide) (by decide) (by decide) (Nat.le_of_ble_eq_true rfl) (oX2_copyFrom.dec rfl) ?_
  refine aw_eqG (G' := va_up (va_up G 26 (va_cpy (G 24) (G 26) 0 0 18)) 27 (va_cpy (G 25) (G 27) (nI 0).toNatClampNeg (nI 0).toNatClampNeg (nI 180).toNatClampNeg)) (rfl) ?_
  refine aw_eqG (G' := va_up (va_up G 26 (va_cpy (G 24) (G 26) 0 0 18)) 27 (va_cpy (G 25) (G 27) 0 0 180)) (rfl) ?_
  refine aw_run oX2_copyFrom sxOk 4 (pc' := 39) (L' := [some (.ref 5), some (.ref 4)]) (st' := []) (I' := up2 I 5 2 (I 4 2)) (J' := J) (G' := va_up (va_up G 26 (va_cpy (G 24) (G 26) 0 0 18)) 27 (va_cpy (G 25) (G 27) 0 0 180)) rfl ?_
  exact aw_vret rfl (oX2_copyFrom.dec rfl) pe_rfl
set_option maxRecDepth 20000 in
theorem c_copyLog_64 {I : II} {J : JJ} {G : II}  : AMet SX mX2_copyFrom [.ref 6, .ref 4] I J G (PE none (up2 I 6 2 (I 4 2)) J (va_up (va_up G 28 (va_cpy (G 24) (G 28) 0 0 18)) 29 (va_cpy (G 25) (G 29) 0 0 180))) := by
  refine amet_en oX2_copyFrom rfl rfl (L := [some (.ref 6), some (.ref 4)]) rfl ?_
  refine aw_run oX2_copyFrom sxOk 7 (pc' := 12) (L' := [some (.ref 6), some (.ref 4)]) (st' := [.int (nI 18), .int (nI 0), .ref 28, .int (nI 0), .ref 24]) (I' := I) (J' := J) (G' := G) rfl ?_
  refine aw_copy (k0 := 24) (k1 := 28) (sp := nI 0) (dp := nI 0) (n := nI 18) n2_37 (by decide) rfl rfl (by decide) (by decide) (by decide) (by decide) (by decide) (Nat.le_of_ble_eq_true rfl) (oX2_copyFrom.dec rfl) ?_
  refine aw_eqG (G' := va_up G 28 (va_cpy (G 24) (G 28) (nI 0).toNatClampNeg (nI 0).toNatClampNeg (nI 18).toNatClampNeg)) (rfl) ?_
  refine aw_eqG (G' := va_up G 28 (va_cpy (G 24) (G 28) 0 0 18)) (rfl) ?_
  refine aw_run oX2_copyFrom sxOk 7 (pc' := 28) (L' := [some (.ref 6), some (.ref 4)]) (st' := [.int (nI 180), .int (nI 0), .ref 29, .int (nI 0), .ref 25]) (I' := I) (J' := J) (G' := va_up G 28 (va_cpy (G 24) (G 28) 0 0 18)) rfl ?_
  refine aw_copy (k0 := 25) (k1 := 29) (sp := nI 0) (dp := nI 0) (n := nI 180) n2_37 (by decide) rfl rfl (by decide) (by decide) (by decide) (by decide) (by decide) (Nat.le_of_ble_eq_true rfl) (oX2_copyFrom.dec rfl) ?_
  refine aw_eqG (G' := va_up (va_up G 28 (va_cpy (G 24) (G 28) 0 0 18)) 29 (va_cpy (G 25) (G 29) (nI 0).toNatClampNeg (nI 0).toNatClampNeg (nI 180).toNatClampNeg)) (rfl) ?_
  refine aw_eqG (G' := va_up (va_up G 28 (va_cpy (G 24) (G 28) 0 0 18)) 29 (va_cpy (G 25) (G 29) 0 0 180)) (rfl) ?_
  refine aw_run oX2_copyFrom sxOk 4 (pc' := 39) (L' := [some (.ref 6), some (.ref 4)]) (st' := []) (I' := up2 I 6 2 (I 4 2)) (J' := J) (G' := va_up (va_up G 28 (va_cpy (G 24) (G 28) 0 0 18)) 29 (va_cpy (G 25) (G 29) 0 0 180)) rfl ?_
  exact aw_vret rfl (oX2_copyFrom.dec rfl) pe_rfl
set_option maxRecDepth 20000 in
theorem c_copyLog_45 {I : II} {J : JJ} {G : II}  : AMet SX mX2_copyFrom [.ref 4, .ref 5] I J G (PE none (up2 I 4 2 (I 5 2)) J (va_up (va_up G 24 (va_cpy (G 26) (G 24) 0 0 18)) 25 (va_cpy (G 27) (G 25) 0 0 180))) := by
  refine amet_en oX2_copyFrom rfl rfl (L := [some (.ref 4), some (.ref 5)]) rfl ?_
  refine aw_run oX2_copyFrom sxOk 7 (pc' := 12) (L' := [some (.ref 4), some (.ref 5)]) (st' := [.int (nI 18), .int (nI 0), .ref 24, .int (nI 0), .ref 26]) (I' := I) (J' := J) (G' := G) rfl ?_
  refine aw_copy (k0 := 26) (k1 := 24) (sp := nI 0) (dp := nI 0) (n := nI 18) n2_37 (by decide) rfl rfl (by decide) (by decide) (by decide) (by decide) (by decide) (Nat.le_of_ble_eq_true rfl) (oX2_copyFrom.dec rfl) ?_
  refine aw_eqG (G' := va_up G 24 (va_cpy (G 26) (G 24) (nI 0).toNatClampNeg (nI 0).toNatClampNeg (nI 18).toNatClampNeg)) (rfl) ?_
  refine aw_eqG (G' := va_up G 24 (va_cpy (G 26) (G 24) 0 0 18)) (rfl) ?_
  refine aw_run oX2_copyFrom sxOk 7 (pc' := 28) (L' := [some (.ref 4), some (.ref 5)]) (st' := [.int (nI 180), .int (nI 0), .ref 25, .int (nI 0), .ref 27]) (I' := I) (J' := J) (G' := va_up G 24 (va_cpy (G 26) (G 24) 0 0 18)) rfl ?_
  refine aw_copy (k0 := 27) (k1 := 25) (sp := nI 0) (dp := nI 0) (n := nI 180) n2_37 (by decide) rfl rfl (by decide) (by decide) (by decide) (by decide) (by decide) (Nat.le_of_ble_eq_true rfl) (oX2_copyFrom.dec rfl) ?_
  refine aw_eqG (G' := va_up (va_up G 24 (va_cpy (G 26) (G 24) 0 0 18)) 25 (va_cpy (G 27) (G 25) (nI 0).toNatClampNeg (nI 0).toNatClampNeg (nI 180).toNatClampNeg)) (rfl) ?_
  refine aw_eqG (G' := va_up (va_up G 24 (va_cpy (G 26) (G 24) 0 0 18)) 25 (va_cpy (G 27) (G 25) 0 0 180)) (rfl) ?_
  refine aw_run oX2_copyFrom sxOk 4 (pc' := 39) (L' := [some (.ref 4), some (.ref 5)]) (st' := []) (I' := up2 I 4 2 (I 5 2)) (J' := J) (G' := va_up (va_up G 24 (va_cpy (G 26) (G 24) 0 0 18)) 25 (va_cpy (G 27) (G 25) 0 0 180)) rfl ?_
  exact aw_vret rfl (oX2_copyFrom.dec rfl) pe_rfl
set_option maxRecDepth 20000 in
theorem c_copyLog_46 {I : II} {J : JJ} {G : II}  : AMet SX mX2_copyFrom [.ref 4, .ref 6] I J G (PE none (up2 I 4 2 (I 6 2)) J (va_up (va_up G 24 (va_cpy (G 28) (G 24) 0 0 18)) 25 (va_cpy (G 29) (G 25) 0 0 180))) := by
  refine amet_en oX2_copyFrom rfl rfl (L := [some (.ref 4), some (.ref 6)]) rfl ?_
  refine aw_run oX2_copyFrom sxOk 7 (pc' := 12) (L' := [some (.ref 4), some (.ref 6)]) (st' := [.int (nI 18), .int (nI 0), .ref 24, .int (nI 0), .ref 28]) (I' := I) (J' := J) (G' := G) rfl ?_
  refine aw_copy (k0 := 28) (k1 := 24) (sp := nI 0) (dp := nI 0) (n := nI 18) n2_37 (by decide) rfl rfl (by decide) (by decide) (by decide) (by decide) (by decide) (Nat.le_of_ble_eq_true rfl) (oX2_copyFrom.dec rfl) ?_
  refine aw_eqG (G' := va_up G 24 (va_cpy (G 28) (G 24) (nI 0).toNatClampNeg (nI 0).toNatClampNeg (nI 18).toNatClampNeg)) (rfl) ?_
  refine aw_eqG (G' := va_up G 24 (va_cpy (G 28) (G 24) 0 0 18)) (rfl) ?_
  refine aw_run oX2_copyFrom sxOk 7 (pc' := 28) (L' := [some (.ref 4), some (.ref 6)]) (st' := [.int (nI 180), .int (nI 0), .ref 25, .int (nI 0), .ref 29]) (I' := I) (J' := J) (G' := va_up G 24 (va_cpy (G 28) (G 24) 0 0 18)) rfl ?_
  refine aw_copy (k0 := 29) (k1 := 25) (sp := nI 0) (dp := nI 0) (n := nI 180) n2_37 (by decide) rfl rfl (by decide) (by decide) (by decide) (by decide) (by decide) (Nat.le_of_ble_eq_true rfl) (oX2_copyFrom.dec rfl) ?_
  refine aw_eqG (G' := va_up (va_up G 24 (va_cpy (G 28) (G 24) 0 0 18)) 25 (va_cpy (G 29) (G 25) (nI 0).toNatClampNeg (nI 0).toNatClampNeg (nI 180).toNatClampNeg)) (rfl) ?_
  refine aw_eqG (G' := va_up (va_up G 24 (va_cpy (G 28) (G 24) 0 0 18)) 25 (va_cpy (G 29) (G 25) 0 0 180)) (rfl) ?_
  refine aw_run oX2_copyFrom sxOk 4 (pc' := 39) (L' := [some (.ref 4), some (.ref 6)]) (st' := []) (I' := up2 I 4 2 (I 6 2)) (J' := J) (G' := va_up (va_up G 24 (va_cpy (G 28) (G 24) 0 0 18)) 25 (va_cpy (G 29) (G 25) 0 0 180)) rfl ?_
  exact aw_vret rfl (oX2_copyFrom.dec rfl) pe_rfl
set_option maxRecDepth 20000 in
theorem c_beginWith {I : II} {J : JJ} {G : II} {P : Nat} (hP : I 2 7 = nI P) (hP5 : P ≤ 5) : AMet SX mX2_beginWith [.ref 4, .ref 2] I J G (fun r I' J' G' => r = none ∧ I' = up2 I 4 2 (nI 0) ∧ J' = J ∧ ∃ f, G' = va_up G 24 f ∧ ∀ j, j < 18 → f j = begR (G 14) (G 15) P j) := by
  refine amet_en oX2_beginWith rfl rfl (L := [some (.ref 4), some (.ref 2), none]) rfl ?_
  have loop2 : ∀ (n s : Nat) (x : Int32) (f : Nat → Int32), (s + n = P) → (x = nI s) → (∀ j, j < 18 → f j = begR (G 14) (G 15) s j) → AW SX mX2_beginWith 28 [some (.ref 4), some (.ref 2), some (.int x)] [] (up2 I 4 2 (nI 0)) J (va_up G 24 f) (fun r I' J' G' => r = none ∧ I' = up2 I 4 2 (nI 0) ∧ J' = J ∧ ∃ f, G' = va_up G 24 f ∧ ∀ j, j < 18 → f j = begR (G 14) (G 15) P j) := by
    intro n
    induction n with
    | zero =>
      intro s x f hsn hx hf
      refine aw_run oX2_beginWith sxOk 3 (pc' := 33) (L' := [some (.ref 4), some (.ref 2), some (.int x)]) (st' := [.int (I 2 7), .int x]) (I' := up2 I 4 2 (nI 0)) (J' := J) (G' := va_up G 24 f) rfl ?_
      refine aw_geN hx hP (by omega) (by omega) (oX2_beginWith.dec rfl) (tgt := 68) rfl (fun h33 => ?_) (fun h33 => absurd h33 (by omega))
      exact aw_vret rfl (oX2_beginWith.dec rfl) (⟨rfl, rfl, rfl, f, rfl, by rw [← show s = P by omega]; exact hf⟩)
    | succ n ih =>
      intro s x f hsn hx hf
      refine aw_run oX2_beginWith sxOk 3 (pc' := 33) (L' := [some (.ref 4), some (.ref 2), some (.int x)]) (st' := [.int (I 2 7), .int x]) (I' := up2 I 4 2 (nI 0)) (J' := J) (G' := va_up G 24 f) rfl ?_
      refine aw_geN hx hP (by omega) (by omega) (oX2_beginWith.dec rfl) (tgt := 68) rfl (fun h33 => absurd h33 (by omega)) (fun h33 => ?_)
      refine aw_run oX2_beginWith sxOk 6 (pc' := 44) (L' := [some (.ref 4), some (.ref 2), some (.int x)]) (st' := [.int (nI 0), .int ((nI 3) + x), .ref 24]) (I' := up2 I 4 2 (nI 0)) (J' := J) (G' := va_up G 24 f) rfl ?_
      refine aw_isN (3 + s) sxOk rfl (addN rfl hx) (by omega) (oX2_beginWith.dec rfl) ?_
      refine aw_eqG (G' := va_up G 24 (upd f (3 + s) (nI 0))) (bx_uu _ _ _ _) ?_
      refine aw_run oX2_beginWith sxOk 5 (pc' := 52) (L' := [some (.ref 4), some (.ref 2), some (.int x)]) (st' := [.int x, .ref 14, .int x, .ref 4]) (I' := up2 I 4 2 (nI 0)) (J' := J) (G' := va_up G 24 (upd f (3 + s) (nI 0))) rfl ?_
      refine aw_iaN s sxOk rfl hx (by omega) (oX2_beginWith.dec rfl) ?_
      refine aw_eqS (st := [.int (G 14 s), .int x, .ref 4]) rfl ?_
      refine aw_run oX2_beginWith sxOk 3 (pc' := 58) (L' := [some (.ref 4), some (.ref 2), some (.int x)]) (st' := [.int x, .ref 15, .int (G 14 s), .int x, .ref 4]) (I' := up2 I 4 2 (nI 0)) (J' := J) (G' := va_up G 24 (upd f (3 + s) (nI 0))) rfl ?_
      refine aw_iaN s sxOk rfl hx (by omega) (oX2_beginWith.dec rfl) ?_
      refine aw_eqS (st := [.int (G 15 s), .int (G 14 s), .int x, .ref 4]) rfl ?_
      refine aw_eqS (st := [.int (G 15 s), .int (G 14 s), .int (nI s), .ref 4]) (by rw [show x = nI s from hx]) ?_
      refine aw_cV (st := []) 4 [.int (nI s), .int (G 14 s), .int (G 15 s)] oX2_setBars k2_33 rfl rfl rfl rfl rfl rfl rfl rfl (oX2_beginWith.dec rfl) (c_setBars (by omega)) ?_
      refine aw_eqG (G' := va_up G 24 (upd (upd (upd f (3 + s) (nI 0)) (8 + s) (G 14 s)) (13 + s) (G 15 s))) (bx_uu _ _ _ _) ?_
      refine aw_eqS (st := []) rfl ?_
      refine aw_run oX2_beginWith sxOk 2 (pc' := 28) (L' := [some (.ref 4), some (.ref 2), some (.int (x + (nI 1)))]) (st' := []) (I' := up2 I 4 2 (nI 0)) (J' := J) (G' := va_up G 24 (upd (upd (upd f (3 + s) (nI 0)) (8 + s) (G 14 s)) (13 + s) (G 15 s))) rfl ?_
      exact ih (s + 1) _ _ (by omega) (addN hx rfl) (fun j hj => begR_s (by omega) (hf j hj))
  have loop1 : ∀ (n s : Nat) (x : Int32) (f : Nat → Int32), (s + n = 18) → (x = nI s) → (∀ j, j < s → f j = nI 0) → AW SX mX2_beginWith 7 [some (.ref 4), some (.ref 2), some (.int x)] [] (up2 I 4 2 (nI 0)) J (va_up G 24 f) (fun r I' J' G' => r = none ∧ I' = up2 I 4 2 (nI 0) ∧ J' = J ∧ ∃ f, G' = va_up G 24 f ∧ ∀ j, j < 18 → f j = begR (G 14) (G 15) P j) := by
    intro n
    induction n with
    | zero =>
      intro s x f hsn hx hf
      refine aw_run oX2_beginWith sxOk 2 (pc' := 10) (L' := [some (.ref 4), some (.ref 2), some (.int x)]) (st' := [.int (nI 18), .int x]) (I' := up2 I 4 2 (nI 0)) (J' := J) (G' := va_up G 24 f) rfl ?_
      refine aw_geN hx rfl (by omega) (by omega) (oX2_beginWith.dec rfl) (tgt := 26) rfl (fun h10 => ?_) (fun h10 => absurd h10 (by omega))
      refine aw_run oX2_beginWith sxOk 2 (pc' := 28) (L' := [some (.ref 4), some (.ref 2), some (.int (nI 0))]) (st' := []) (I' := up2 I 4 2 (nI 0)) (J' := J) (G' := va_up G 24 f) rfl ?_
      exact loop2 P 0 _ _ (by omega) rfl (fun j hj => by unfold begR; rw [if_neg (by omega), if_neg (by omega)]; exact hf j (by omega))
    | succ n ih =>
      intro s x f hsn hx hf
      refine aw_run oX2_beginWith sxOk 2 (pc' := 10) (L' := [some (.ref 4), some (.ref 2), some (.int x)]) (st' := [.int (nI 18), .int x]) (I' := up2 I 4 2 (nI 0)) (J' := J) (G' := va_up G 24 f) rfl ?_
      refine aw_geN hx rfl (by omega) (by omega) (oX2_beginWith.dec rfl) (tgt := 26) rfl (fun h10 => absurd h10 (by omega)) (fun h10 => ?_)
      refine aw_run oX2_beginWith sxOk 4 (pc' := 19) (L' := [some (.ref 4), some (.ref 2), some (.int x)]) (st' := [.int (nI 0), .int x, .ref 24]) (I' := up2 I 4 2 (nI 0)) (J' := J) (G' := va_up G 24 f) rfl ?_
      refine aw_isN s sxOk rfl hx (by omega) (oX2_beginWith.dec rfl) ?_
      refine aw_eqG (G' := va_up G 24 (upd f s (nI 0))) (bx_uu _ _ _ _) ?_
      refine aw_run oX2_beginWith sxOk 2 (pc' := 7) (L' := [some (.ref 4), some (.ref 2), some (.int (x + (nI 1)))]) (st' := []) (I' := up2 I 4 2 (nI 0)) (J' := J) (G' := va_up G 24 (upd f s (nI 0))) rfl ?_
      exact ih (s + 1) _ _ (by omega) (addN hx rfl) (fun j hj => by simp only [upd]; split; rfl; exact hf j (by omega))
  refine aw_run oX2_beginWith sxOk 5 (pc' := 7) (L' := [some (.ref 4), some (.ref 2), some (.int (nI 0))]) (st' := []) (I' := up2 I 4 2 (nI 0)) (J' := J) (G' := G) rfl ?_
  refine aw_eqG (upG_id G 24).symm ?_
  exact loop1 18 0 _ _ (by omega) rfl (fun j hj => absurd hj (by omega))
set_option maxRecDepth 20000 in
theorem c_forgetAll {I : II} {J : JJ} {G : II}  : AMet SX mX4_forgetAll [.ref 3] I J G (PE none (up2 (up2 (up2 (up2 I 3 6 (nI 0)) 3 7 (nI 0)) 3 8 (nI 2)) 3 9 (nI 0)) J G) := by
  refine amet_en oX4_forgetAll rfl rfl (L := [some (.ref 3)]) rfl ?_
  refine aw_run oX4_forgetAll sxOk 12 (pc' := 20) (L' := [some (.ref 3)]) (st' := []) (I' := up2 (up2 (up2 (up2 I 3 6 (nI 0)) 3 7 (nI 0)) 3 8 (nI 2)) 3 9 (nI 0)) (J' := J) (G' := G) rfl ?_
  exact aw_vret rfl (oX4_forgetAll.dec rfl) pe_rfl
set_option maxRecDepth 20000 in
theorem c_addWeek {I : II} {J : JJ} {G : II} {Wd0 : Nat} {a b : Int32} (hW : I 3 6 = nI Wd0) (hW12 : Wd0 < 12) : AMet SX mX4_addWeek [.ref 3, .int a, .int b] I J G (PE none (up2 I 3 6 (nI (Wd0 + 1))) J (va_up (va_up G 18 (upd (G 18) Wd0 a)) 19 (upd (G 19) Wd0 b))) := by
  refine amet_en oX4_addWeek rfl rfl (L := [some (.ref 3), some (.int a), some (.int b)]) rfl ?_
  refine aw_run oX4_addWeek sxOk 3 (pc' := 6) (L' := [some (.ref 3), some (.int a), some (.int b)]) (st' := [.int (nI 12), .int (I 3 6)]) (I' := I) (J' := J) (G' := G) rfl ?_
  refine aw_ltN hW rfl (by omega) (by omega) (oX4_addWeek.dec rfl) (tgt := 10) rfl (fun h6 => ?_) (fun h6 => absurd h6 (by omega))
  refine aw_run oX4_addWeek sxOk 5 (pc' := 19) (L' := [some (.ref 3), some (.int a), some (.int b)]) (st' := [.int a, .int (I 3 6), .ref 18]) (I' := I) (J' := J) (G' := G) rfl ?_
  refine aw_isN Wd0 sxOk rfl hW (by omega) (oX4_addWeek.dec rfl) ?_
  refine aw_eqG (G' := va_up G 18 (upd (G 18) Wd0 a)) (rfl) ?_
  refine aw_run oX4_addWeek sxOk 5 (pc' := 29) (L' := [some (.ref 3), some (.int a), some (.int b)]) (st' := [.int b, .int (I 3 6), .ref 19]) (I' := I) (J' := J) (G' := va_up G 18 (upd (G 18) Wd0 a)) rfl ?_
  refine aw_isN Wd0 sxOk rfl hW (by omega) (oX4_addWeek.dec rfl) ?_
  refine aw_eqG (G' := va_up (va_up G 18 (upd (G 18) Wd0 a)) 19 (upd (G 19) Wd0 b)) (rfl) ?_
  refine aw_run oX4_addWeek sxOk 6 (pc' := 40) (L' := [some (.ref 3), some (.int a), some (.int b)]) (st' := []) (I' := up2 I 3 6 ((I 3 6) + (nI 1))) (J' := J) (G' := va_up (va_up G 18 (upd (G 18) Wd0 a)) 19 (upd (G 19) Wd0 b)) rfl ?_
  exact aw_vret rfl (oX4_addWeek.dec rfl) (⟨rfl, by rw [show I 3 6 + nI 1 = nI (Wd0 + 1) from addN hW rfl], rfl, rfl⟩)
set_option maxRecDepth 20000 in
theorem c_addShip {I : II} {J : JJ} {G : II} {Pd : Nat} {a b c d : Int32} (hPd : I 3 7 = nI Pd) (hP5 : Pd < 5) : AMet SX mX4_addShip [.ref 3, .int a, .int b, .int c, .int d] I J G (PE none (up2 I 3 7 (nI (Pd + 1))) J (va_up (va_up (va_up (va_up G 20 (upd (G 20) Pd a)) 21 (upd (G 21) Pd b)) 22 (upd (G 22) Pd c)) 23 (upd (G 23) Pd d))) := by
  refine amet_en oX4_addShip rfl rfl (L := [some (.ref 3), some (.int a), some (.int b), some (.int c), some (.int d)]) rfl ?_
  refine aw_run oX4_addShip sxOk 3 (pc' := 5) (L' := [some (.ref 3), some (.int a), some (.int b), some (.int c), some (.int d)]) (st' := [.int (nI 5), .int (I 3 7)]) (I' := I) (J' := J) (G' := G) rfl ?_
  refine aw_ltN hPd rfl (by omega) (by omega) (oX4_addShip.dec rfl) (tgt := 9) rfl (fun h5 => ?_) (fun h5 => absurd h5 (by omega))
  refine aw_run oX4_addShip sxOk 5 (pc' := 18) (L' := [some (.ref 3), some (.int a), some (.int b), some (.int c), some (.int d)]) (st' := [.int a, .int (I 3 7), .ref 20]) (I' := I) (J' := J) (G' := G) rfl ?_
  refine aw_isN Pd sxOk rfl hPd (by omega) (oX4_addShip.dec rfl) ?_
  refine aw_eqG (G' := va_up G 20 (upd (G 20) Pd a)) (rfl) ?_
  refine aw_run oX4_addShip sxOk 5 (pc' := 28) (L' := [some (.ref 3), some (.int a), some (.int b), some (.int c), some (.int d)]) (st' := [.int b, .int (I 3 7), .ref 21]) (I' := I) (J' := J) (G' := va_up G 20 (upd (G 20) Pd a)) rfl ?_
  refine aw_isN Pd sxOk rfl hPd (by omega) (oX4_addShip.dec rfl) ?_
  refine aw_eqG (G' := va_up (va_up G 20 (upd (G 20) Pd a)) 21 (upd (G 21) Pd b)) (rfl) ?_
  refine aw_run oX4_addShip sxOk 5 (pc' := 38) (L' := [some (.ref 3), some (.int a), some (.int b), some (.int c), some (.int d)]) (st' := [.int c, .int (I 3 7), .ref 22]) (I' := I) (J' := J) (G' := va_up (va_up G 20 (upd (G 20) Pd a)) 21 (upd (G 21) Pd b)) rfl ?_
  refine aw_isN Pd sxOk rfl hPd (by omega) (oX4_addShip.dec rfl) ?_
  refine aw_eqG (G' := va_up (va_up (va_up G 20 (upd (G 20) Pd a)) 21 (upd (G 21) Pd b)) 22 (upd (G 22) Pd c)) (rfl) ?_
  refine aw_run oX4_addShip sxOk 5 (pc' := 49) (L' := [some (.ref 3), some (.int a), some (.int b), some (.int c), some (.int d)]) (st' := [.int d, .int (I 3 7), .ref 23]) (I' := I) (J' := J) (G' := va_up (va_up (va_up G 20 (upd (G 20) Pd a)) 21 (upd (G 21) Pd b)) 22 (upd (G 22) Pd c)) rfl ?_
  refine aw_isN Pd sxOk rfl hPd (by omega) (oX4_addShip.dec rfl) ?_
  refine aw_eqG (G' := va_up (va_up (va_up (va_up G 20 (upd (G 20) Pd a)) 21 (upd (G 21) Pd b)) 22 (upd (G 22) Pd c)) 23 (upd (G 23) Pd d)) (rfl) ?_
  refine aw_run oX4_addShip sxOk 6 (pc' := 60) (L' := [some (.ref 3), some (.int a), some (.int b), some (.int c), some (.int d)]) (st' := []) (I' := up2 I 3 7 ((I 3 7) + (nI 1))) (J' := J) (G' := va_up (va_up (va_up (va_up G 20 (upd (G 20) Pd a)) 21 (upd (G 21) Pd b)) 22 (upd (G 22) Pd c)) 23 (upd (G 23) Pd d)) rfl ?_
  exact aw_vret rfl (oX4_addShip.dec rfl) (⟨rfl, by rw [show I 3 7 + nI 1 = nI (Pd + 1) from addN hPd rfl], rfl, rfl⟩)
set_option maxRecDepth 20000 in
theorem c_setShare {I : II} {J : JJ} {G : II} {a : Int32} : AMet SX mX4_setShare [.ref 3, .int a] I J G (PE none (up2 (up2 I 3 8 a) 3 9 (nI 1)) J G) := by
  refine amet_en oX4_setShare rfl rfl (L := [some (.ref 3), some (.int a)]) rfl ?_
  refine aw_run oX4_setShare sxOk 6 (pc' := 10) (L' := [some (.ref 3), some (.int a)]) (st' := []) (I' := up2 (up2 I 3 8 a) 3 9 (nI 1)) (J' := J) (G' := G) rfl ?_
  exact aw_vret rfl (oX4_setShare.dec rfl) pe_rfl
set_option maxRecDepth 20000 in
theorem c_copySeason {I : II} {J : JJ} {G : II} (hT : I 3 9 = nI 0 ∨ I 3 9 = nI 1) : AMet SX mX4_copyFrom [.ref 2, .ref 3] I J G (PE none (up2 (up2 (up2 (up2 I 2 6 (I 3 6)) 2 7 (I 3 7)) 2 8 (I 3 8)) 2 9 (I 3 9)) J (va_up (va_up (va_up (va_up (va_up (va_up G 12 (va_cpy (G 18) (G 12) 0 0 12)) 13 (va_cpy (G 19) (G 13) 0 0 12)) 14 (va_cpy (G 20) (G 14) 0 0 5)) 15 (va_cpy (G 21) (G 15) 0 0 5)) 16 (va_cpy (G 22) (G 16) 0 0 5)) 17 (va_cpy (G 23) (G 17) 0 0 5))) := by
  refine amet_en oX4_copyFrom rfl rfl (L := [some (.ref 2), some (.ref 3)]) rfl ?_
  rcases hT with hT | hT
  · refine aw_run oX4_copyFrom sxOk 7 (pc' := 12) (L' := [some (.ref 2), some (.ref 3)]) (st' := [.int (nI 12), .int (nI 0), .ref 12, .int (nI 0), .ref 18]) (I' := I) (J' := J) (G' := G) rfl ?_
    refine aw_copy (k0 := 18) (k1 := 12) (sp := nI 0) (dp := nI 0) (n := nI 12) n4_44 (by decide) rfl rfl (by decide) (by decide) (by decide) (by decide) (by decide) (Nat.le_of_ble_eq_true rfl) (oX4_copyFrom.dec rfl) ?_
    refine aw_eqG (G' := va_up G 12 (va_cpy (G 18) (G 12) (nI 0).toNatClampNeg (nI 0).toNatClampNeg (nI 12).toNatClampNeg)) (rfl) ?_
    refine aw_eqG (G' := va_up G 12 (va_cpy (G 18) (G 12) 0 0 12)) (rfl) ?_
    refine aw_run oX4_copyFrom sxOk 7 (pc' := 27) (L' := [some (.ref 2), some (.ref 3)]) (st' := [.int (nI 12), .int (nI 0), .ref 13, .int (nI 0), .ref 19]) (I' := I) (J' := J) (G' := va_up G 12 (va_cpy (G 18) (G 12) 0 0 12)) rfl ?_
    refine aw_copy (k0 := 19) (k1 := 13) (sp := nI 0) (dp := nI 0) (n := nI 12) n4_44 (by decide) rfl rfl (by decide) (by decide) (by decide) (by decide) (by decide) (Nat.le_of_ble_eq_true rfl) (oX4_copyFrom.dec rfl) ?_
    refine aw_eqG (G' := va_up (va_up G 12 (va_cpy (G 18) (G 12) 0 0 12)) 13 (va_cpy (G 19) (G 13) (nI 0).toNatClampNeg (nI 0).toNatClampNeg (nI 12).toNatClampNeg)) (rfl) ?_
    refine aw_eqG (G' := va_up (va_up G 12 (va_cpy (G 18) (G 12) 0 0 12)) 13 (va_cpy (G 19) (G 13) 0 0 12)) (rfl) ?_
    refine aw_run oX4_copyFrom sxOk 7 (pc' := 41) (L' := [some (.ref 2), some (.ref 3)]) (st' := [.int (nI 5), .int (nI 0), .ref 14, .int (nI 0), .ref 20]) (I' := I) (J' := J) (G' := va_up (va_up G 12 (va_cpy (G 18) (G 12) 0 0 12)) 13 (va_cpy (G 19) (G 13) 0 0 12)) rfl ?_
    refine aw_copy (k0 := 20) (k1 := 14) (sp := nI 0) (dp := nI 0) (n := nI 5) n4_44 (by decide) rfl rfl (by decide) (by decide) (by decide) (by decide) (by decide) (Nat.le_of_ble_eq_true rfl) (oX4_copyFrom.dec rfl) ?_
    refine aw_eqG (G' := va_up (va_up (va_up G 12 (va_cpy (G 18) (G 12) 0 0 12)) 13 (va_cpy (G 19) (G 13) 0 0 12)) 14 (va_cpy (G 20) (G 14) (nI 0).toNatClampNeg (nI 0).toNatClampNeg (nI 5).toNatClampNeg)) (rfl) ?_
    refine aw_eqG (G' := va_up (va_up (va_up G 12 (va_cpy (G 18) (G 12) 0 0 12)) 13 (va_cpy (G 19) (G 13) 0 0 12)) 14 (va_cpy (G 20) (G 14) 0 0 5)) (rfl) ?_
    refine aw_run oX4_copyFrom sxOk 7 (pc' := 55) (L' := [some (.ref 2), some (.ref 3)]) (st' := [.int (nI 5), .int (nI 0), .ref 15, .int (nI 0), .ref 21]) (I' := I) (J' := J) (G' := va_up (va_up (va_up G 12 (va_cpy (G 18) (G 12) 0 0 12)) 13 (va_cpy (G 19) (G 13) 0 0 12)) 14 (va_cpy (G 20) (G 14) 0 0 5)) rfl ?_
    refine aw_copy (k0 := 21) (k1 := 15) (sp := nI 0) (dp := nI 0) (n := nI 5) n4_44 (by decide) rfl rfl (by decide) (by decide) (by decide) (by decide) (by decide) (Nat.le_of_ble_eq_true rfl) (oX4_copyFrom.dec rfl) ?_
    refine aw_eqG (G' := va_up (va_up (va_up (va_up G 12 (va_cpy (G 18) (G 12) 0 0 12)) 13 (va_cpy (G 19) (G 13) 0 0 12)) 14 (va_cpy (G 20) (G 14) 0 0 5)) 15 (va_cpy (G 21) (G 15) (nI 0).toNatClampNeg (nI 0).toNatClampNeg (nI 5).toNatClampNeg)) (rfl) ?_
    refine aw_eqG (G' := va_up (va_up (va_up (va_up G 12 (va_cpy (G 18) (G 12) 0 0 12)) 13 (va_cpy (G 19) (G 13) 0 0 12)) 14 (va_cpy (G 20) (G 14) 0 0 5)) 15 (va_cpy (G 21) (G 15) 0 0 5)) (rfl) ?_
    refine aw_run oX4_copyFrom sxOk 7 (pc' := 69) (L' := [some (.ref 2), some (.ref 3)]) (st' := [.int (nI 5), .int (nI 0), .ref 16, .int (nI 0), .ref 22]) (I' := I) (J' := J) (G' := va_up (va_up (va_up (va_up G 12 (va_cpy (G 18) (G 12) 0 0 12)) 13 (va_cpy (G 19) (G 13) 0 0 12)) 14 (va_cpy (G 20) (G 14) 0 0 5)) 15 (va_cpy (G 21) (G 15) 0 0 5)) rfl ?_
    refine aw_copy (k0 := 22) (k1 := 16) (sp := nI 0) (dp := nI 0) (n := nI 5) n4_44 (by decide) rfl rfl (by decide) (by decide) (by decide) (by decide) (by decide) (Nat.le_of_ble_eq_true rfl) (oX4_copyFrom.dec rfl) ?_
    refine aw_eqG (G' := va_up (va_up (va_up (va_up (va_up G 12 (va_cpy (G 18) (G 12) 0 0 12)) 13 (va_cpy (G 19) (G 13) 0 0 12)) 14 (va_cpy (G 20) (G 14) 0 0 5)) 15 (va_cpy (G 21) (G 15) 0 0 5)) 16 (va_cpy (G 22) (G 16) (nI 0).toNatClampNeg (nI 0).toNatClampNeg (nI 5).toNatClampNeg)) (rfl) ?_
    refine aw_eqG (G' := va_up (va_up (va_up (va_up (va_up G 12 (va_cpy (G 18) (G 12) 0 0 12)) 13 (va_cpy (G 19) (G 13) 0 0 12)) 14 (va_cpy (G 20) (G 14) 0 0 5)) 15 (va_cpy (G 21) (G 15) 0 0 5)) 16 (va_cpy (G 22) (G 16) 0 0 5)) (rfl) ?_
    refine aw_run oX4_copyFrom sxOk 7 (pc' := 83) (L' := [some (.ref 2), some (.ref 3)]) (st' := [.int (nI 5), .int (nI 0), .ref 17, .int (nI 0), .ref 23]) (I' := I) (J' := J) (G' := va_up (va_up (va_up (va_up (va_up G 12 (va_cpy (G 18) (G 12) 0 0 12)) 13 (va_cpy (G 19) (G 13) 0 0 12)) 14 (va_cpy (G 20) (G 14) 0 0 5)) 15 (va_cpy (G 21) (G 15) 0 0 5)) 16 (va_cpy (G 22) (G 16) 0 0 5)) rfl ?_
    refine aw_copy (k0 := 23) (k1 := 17) (sp := nI 0) (dp := nI 0) (n := nI 5) n4_44 (by decide) rfl rfl (by decide) (by decide) (by decide) (by decide) (by decide) (Nat.le_of_ble_eq_true rfl) (oX4_copyFrom.dec rfl) ?_
    refine aw_eqG (G' := va_up (va_up (va_up (va_up (va_up (va_up G 12 (va_cpy (G 18) (G 12) 0 0 12)) 13 (va_cpy (G 19) (G 13) 0 0 12)) 14 (va_cpy (G 20) (G 14) 0 0 5)) 15 (va_cpy (G 21) (G 15) 0 0 5)) 16 (va_cpy (G 22) (G 16) 0 0 5)) 17 (va_cpy (G 23) (G 17) (nI 0).toNatClampNeg (nI 0).toNatClampNeg (nI 5).toNatClampNeg)) (rfl) ?_
    refine aw_eqG (G' := va_up (va_up (va_up (va_up (va_up (va_up G 12 (va_cpy (G 18) (G 12) 0 0 12)) 13 (va_cpy (G 19) (G 13) 0 0 12)) 14 (va_cpy (G 20) (G 14) 0 0 5)) 15 (va_cpy (G 21) (G 15) 0 0 5)) 16 (va_cpy (G 22) (G 16) 0 0 5)) 17 (va_cpy (G 23) (G 17) 0 0 5)) (rfl) ?_
    refine aw_run oX4_copyFrom sxOk 15 (pc' := 115) (L' := [some (.ref 2), some (.ref 3)]) (st' := [.int (I 3 9), .ref 2]) (I' := up2 (up2 (up2 I 2 6 (I 3 6)) 2 7 (I 3 7)) 2 8 (I 3 8)) (J' := J) (G' := va_up (va_up (va_up (va_up (va_up (va_up G 12 (va_cpy (G 18) (G 12) 0 0 12)) 13 (va_cpy (G 19) (G 13) 0 0 12)) 14 (va_cpy (G 20) (G 14) 0 0 5)) 15 (va_cpy (G 21) (G 15) 0 0 5)) 16 (va_cpy (G 22) (G 16) 0 0 5)) 17 (va_cpy (G 23) (G 17) 0 0 5)) rfl ?_
    refine aw_eqS (st := [.int (nI 0), .ref 2]) (by rw [hT]) ?_
    refine aw_run oX4_copyFrom sxOk 1 (pc' := 118) (L' := [some (.ref 2), some (.ref 3)]) (st' := []) (I' := up2 (up2 (up2 (up2 I 2 6 (I 3 6)) 2 7 (I 3 7)) 2 8 (I 3 8)) 2 9 (nI 0)) (J' := J) (G' := va_up (va_up (va_up (va_up (va_up (va_up G 12 (va_cpy (G 18) (G 12) 0 0 12)) 13 (va_cpy (G 19) (G 13) 0 0 12)) 14 (va_cpy (G 20) (G 14) 0 0 5)) 15 (va_cpy (G 21) (G 15) 0 0 5)) 16 (va_cpy (G 22) (G 16) 0 0 5)) 17 (va_cpy (G 23) (G 17) 0 0 5)) rfl ?_
    exact aw_vret rfl (oX4_copyFrom.dec rfl) (⟨rfl, by rw [hT], rfl, rfl⟩)
  · refine aw_run oX4_copyFrom sxOk 7 (pc' := 12) (L' := [some (.ref 2), some (.ref 3)]) (st' := [.int (nI 12), .int (nI 0), .ref 12, .int (nI 0), .ref 18]) (I' := I) (J' := J) (G' := G) rfl ?_
    refine aw_copy (k0 := 18) (k1 := 12) (sp := nI 0) (dp := nI 0) (n := nI 12) n4_44 (by decide) rfl rfl (by decide) (by decide) (by decide) (by decide) (by decide) (Nat.le_of_ble_eq_true rfl) (oX4_copyFrom.dec rfl) ?_
    refine aw_eqG (G' := va_up G 12 (va_cpy (G 18) (G 12) (nI 0).toNatClampNeg (nI 0).toNatClampNeg (nI 12).toNatClampNeg)) (rfl) ?_
    refine aw_eqG (G' := va_up G 12 (va_cpy (G 18) (G 12) 0 0 12)) (rfl) ?_
    refine aw_run oX4_copyFrom sxOk 7 (pc' := 27) (L' := [some (.ref 2), some (.ref 3)]) (st' := [.int (nI 12), .int (nI 0), .ref 13, .int (nI 0), .ref 19]) (I' := I) (J' := J) (G' := va_up G 12 (va_cpy (G 18) (G 12) 0 0 12)) rfl ?_
    refine aw_copy (k0 := 19) (k1 := 13) (sp := nI 0) (dp := nI 0) (n := nI 12) n4_44 (by decide) rfl rfl (by decide) (by decide) (by decide) (by decide) (by decide) (Nat.le_of_ble_eq_true rfl) (oX4_copyFrom.dec rfl) ?_
    refine aw_eqG (G' := va_up (va_up G 12 (va_cpy (G 18) (G 12) 0 0 12)) 13 (va_cpy (G 19) (G 13) (nI 0).toNatClampNeg (nI 0).toNatClampNeg (nI 12).toNatClampNeg)) (rfl) ?_
    refine aw_eqG (G' := va_up (va_up G 12 (va_cpy (G 18) (G 12) 0 0 12)) 13 (va_cpy (G 19) (G 13) 0 0 12)) (rfl) ?_
    refine aw_run oX4_copyFrom sxOk 7 (pc' := 41) (L' := [some (.ref 2), some (.ref 3)]) (st' := [.int (nI 5), .int (nI 0), .ref 14, .int (nI 0), .ref 20]) (I' := I) (J' := J) (G' := va_up (va_up G 12 (va_cpy (G 18) (G 12) 0 0 12)) 13 (va_cpy (G 19) (G 13) 0 0 12)) rfl ?_
    refine aw_copy (k0 := 20) (k1 := 14) (sp := nI 0) (dp := nI 0) (n := nI 5) n4_44 (by decide) rfl rfl (by decide) (by decide) (by decide) (by decide) (by decide) (Nat.le_of_ble_eq_true rfl) (oX4_copyFrom.dec rfl) ?_
    refine aw_eqG (G' := va_up (va_up (va_up G 12 (va_cpy (G 18) (G 12) 0 0 12)) 13 (va_cpy (G 19) (G 13) 0 0 12)) 14 (va_cpy (G 20) (G 14) (nI 0).toNatClampNeg (nI 0).toNatClampNeg (nI 5).toNatClampNeg)) (rfl) ?_
    refine aw_eqG (G' := va_up (va_up (va_up G 12 (va_cpy (G 18) (G 12) 0 0 12)) 13 (va_cpy (G 19) (G 13) 0 0 12)) 14 (va_cpy (G 20) (G 14) 0 0 5)) (rfl) ?_
    refine aw_run oX4_copyFrom sxOk 7 (pc' := 55) (L' := [some (.ref 2), some (.ref 3)]) (st' := [.int (nI 5), .int (nI 0), .ref 15, .int (nI 0), .ref 21]) (I' := I) (J' := J) (G' := va_up (va_up (va_up G 12 (va_cpy (G 18) (G 12) 0 0 12)) 13 (va_cpy (G 19) (G 13) 0 0 12)) 14 (va_cpy (G 20) (G 14) 0 0 5)) rfl ?_
    refine aw_copy (k0 := 21) (k1 := 15) (sp := nI 0) (dp := nI 0) (n := nI 5) n4_44 (by decide) rfl rfl (by decide) (by decide) (by decide) (by decide) (by decide) (Nat.le_of_ble_eq_true rfl) (oX4_copyFrom.dec rfl) ?_
    refine aw_eqG (G' := va_up (va_up (va_up (va_up G 12 (va_cpy (G 18) (G 12) 0 0 12)) 13 (va_cpy (G 19) (G 13) 0 0 12)) 14 (va_cpy (G 20) (G 14) 0 0 5)) 15 (va_cpy (G 21) (G 15) (nI 0).toNatClampNeg (nI 0).toNatClampNeg (nI 5).toNatClampNeg)) (rfl) ?_
    refine aw_eqG (G' := va_up (va_up (va_up (va_up G 12 (va_cpy (G 18) (G 12) 0 0 12)) 13 (va_cpy (G 19) (G 13) 0 0 12)) 14 (va_cpy (G 20) (G 14) 0 0 5)) 15 (va_cpy (G 21) (G 15) 0 0 5)) (rfl) ?_
    refine aw_run oX4_copyFrom sxOk 7 (pc' := 69) (L' := [some (.ref 2), some (.ref 3)]) (st' := [.int (nI 5), .int (nI 0), .ref 16, .int (nI 0), .ref 22]) (I' := I) (J' := J) (G' := va_up (va_up (va_up (va_up G 12 (va_cpy (G 18) (G 12) 0 0 12)) 13 (va_cpy (G 19) (G 13) 0 0 12)) 14 (va_cpy (G 20) (G 14) 0 0 5)) 15 (va_cpy (G 21) (G 15) 0 0 5)) rfl ?_
    refine aw_copy (k0 := 22) (k1 := 16) (sp := nI 0) (dp := nI 0) (n := nI 5) n4_44 (by decide) rfl rfl (by decide) (by decide) (by decide) (by decide) (by decide) (Nat.le_of_ble_eq_true rfl) (oX4_copyFrom.dec rfl) ?_
    refine aw_eqG (G' := va_up (va_up (va_up (va_up (va_up G 12 (va_cpy (G 18) (G 12) 0 0 12)) 13 (va_cpy (G 19) (G 13) 0 0 12)) 14 (va_cpy (G 20) (G 14) 0 0 5)) 15 (va_cpy (G 21) (G 15) 0 0 5)) 16 (va_cpy (G 22) (G 16) (nI 0).toNatClampNeg (nI 0).toNatClampNeg (nI 5).toNatClampNeg)) (rfl) ?_
    refine aw_eqG (G' := va_up (va_up (va_up (va_up (va_up G 12 (va_cpy (G 18) (G 12) 0 0 12)) 13 (va_cpy (G 19) (G 13) 0 0 12)) 14 (va_cpy (G 20) (G 14) 0 0 5)) 15 (va_cpy (G 21) (G 15) 0 0 5)) 16 (va_cpy (G 22) (G 16) 0 0 5)) (rfl) ?_
    refine aw_run oX4_copyFrom sxOk 7 (pc' := 83) (L' := [some (.ref 2), some (.ref 3)]) (st' := [.int (nI 5), .int (nI 0), .ref 17, .int (nI 0), .ref 23]) (I' := I) (J' := J) (G' := va_up (va_up (va_up (va_up (va_up G 12 (va_cpy (G 18) (G 12) 0 0 12)) 13 (va_cpy (G 19) (G 13) 0 0 12)) 14 (va_cpy (G 20) (G 14) 0 0 5)) 15 (va_cpy (G 21) (G 15) 0 0 5)) 16 (va_cpy (G 22) (G 16) 0 0 5)) rfl ?_
    refine aw_copy (k0 := 23) (k1 := 17) (sp := nI 0) (dp := nI 0) (n := nI 5) n4_44 (by decide) rfl rfl (by decide) (by decide) (by decide) (by decide) (by decide) (Nat.le_of_ble_eq_true rfl) (oX4_copyFrom.dec rfl) ?_
    refine aw_eqG (G' := va_up (va_up (va_up (va_up (va_up (va_up G 12 (va_cpy (G 18) (G 12) 0 0 12)) 13 (va_cpy (G 19) (G 13) 0 0 12)) 14 (va_cpy (G 20) (G 14) 0 0 5)) 15 (va_cpy (G 21) (G 15) 0 0 5)) 16 (va_cpy (G 22) (G 16) 0 0 5)) 17 (va_cpy (G 23) (G 17) (nI 0).toNatClampNeg (nI 0).toNatClampNeg (nI 5).toNatClampNeg)) (rfl) ?_
    refine aw_eqG (G' := va_up (va_up (va_up (va_up (va_up (va_up G 12 (va_cpy (G 18) (G 12) 0 0 12)) 13 (va_cpy (G 19) (G 13) 0 0 12)) 14 (va_cpy (G 20) (G 14) 0 0 5)) 15 (va_cpy (G 21) (G 15) 0 0 5)) 16 (va_cpy (G 22) (G 16) 0 0 5)) 17 (va_cpy (G 23) (G 17) 0 0 5)) (rfl) ?_
    refine aw_run oX4_copyFrom sxOk 15 (pc' := 115) (L' := [some (.ref 2), some (.ref 3)]) (st' := [.int (I 3 9), .ref 2]) (I' := up2 (up2 (up2 I 2 6 (I 3 6)) 2 7 (I 3 7)) 2 8 (I 3 8)) (J' := J) (G' := va_up (va_up (va_up (va_up (va_up (va_up G 12 (va_cpy (G 18) (G 12) 0 0 12)) 13 (va_cpy (G 19) (G 13) 0 0 12)) 14 (va_cpy (G 20) (G 14) 0 0 5)) 15 (va_cpy (G 21) (G 15) 0 0 5)) 16 (va_cpy (G 22) (G 16) 0 0 5)) 17 (va_cpy (G 23) (G 17) 0 0 5)) rfl ?_
    refine aw_eqS (st := [.int (nI 1), .ref 2]) (by rw [hT]) ?_
    refine aw_run oX4_copyFrom sxOk 1 (pc' := 118) (L' := [some (.ref 2), some (.ref 3)]) (st' := []) (I' := up2 (up2 (up2 (up2 I 2 6 (I 3 6)) 2 7 (I 3 7)) 2 8 (I 3 8)) 2 9 (nI 1)) (J' := J) (G' := va_up (va_up (va_up (va_up (va_up (va_up G 12 (va_cpy (G 18) (G 12) 0 0 12)) 13 (va_cpy (G 19) (G 13) 0 0 12)) 14 (va_cpy (G 20) (G 14) 0 0 5)) 15 (va_cpy (G 21) (G 15) 0 0 5)) 16 (va_cpy (G 22) (G 16) 0 0 5)) 17 (va_cpy (G 23) (G 17) 0 0 5)) rfl ?_
    exact aw_vret rfl (oX4_copyFrom.dec rfl) (⟨rfl, by rw [hT], rfl, rfl⟩)
