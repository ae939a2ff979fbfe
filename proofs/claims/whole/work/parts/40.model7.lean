set_option maxRecDepth 20000 in
theorem m_measure {I : II} {J : JJ} {G : II} {P : Nat} (hP : G 5 0 = nI P) (hP5 : P ≤ 5) {Wk : Nat} (hW : G 2 0 = nI Wk) (hWk : Wk ≤ 12)  {fi : Nat} (hfi : fi ≤ Wk) : AMet SM mX7_measure [.ref 0, .int (nI fi)] I J G (fun r I' J' G' => r = none ∧ I' = I ∧ J' = J ∧ ∃ b c, G' = va_up (va_up G 13 b) 14 c ∧ (∀ u, u < 32 → b (32 * Wk + u) = nI 0) ∧ ∀ w, fi ≤ w → w < Wk → ∀ u, u < 2 ^ P → b (32 * w + u) = valO (plV (fun m w => wor (G 11) (G 8) (G 4 w) (G 3 w) P m) (fun w => setN (fun s => decide (G 9 s ≤ nI w)) P) Wk (Wk - w) u) ∧ c (32 * w + u) = nI (chO (plV (fun m w => wor (G 11) (G 8) (G 4 w) (G 3 w) P m) (fun w => setN (fun s => decide (G 9 s ≤ nI w)) P) Wk (Wk - w) u))) := by
  refine amet_en oX7_measure rfl rfl (L := [some (.ref 0), some (.int (nI fi)), none, none, none, none, none]) rfl ?_
  have hp32 : 2 ^ P ≤ 32 := Nat.pow_le_pow_right (by decide) hP5
  have hp1 : 0 < 2 ^ P := Nat.pow_pos (by decide)
  have hrd : ∀ w, setN (fun s => decide (G 9 s ≤ nI w)) P < 32 := fun w => Nat.lt_of_lt_of_le (setN_lt _ _) hp32
  have inner : ∀ (w l : Nat) (y zz : Int32) (b0 c0 : Nat → Int32) (sm : Nat → Int32) (sb : Nat → Bool), w < Wk → l < 2 ^ P → y = nI w → zz = nI l → (∀ m, m ≤ l → (sb m = true ↔ anN m l = 0 ∧ allB (q1 (G 9) m w) P = true)) → sb 0 = true → nI 0 ≤ sm 0 → (∀ m, m ≤ l → sb m = true → wor (G 11) (G 8) (G 4 w) (G 3 w) P m + b0 (32 * (w + 1) + anN l m) = sm m) → (∀ (b c : Nat → Int32), (∀ i, i ≠ 32 * w + l → b i = b0 i ∧ c i = c0 i) → b (32 * w + l) = valO (ffF sm sb (l + 1)) → c (32 * w + l) = nI (chO (ffF sm sb (l + 1))) → AW SM mX7_measure 189 [some (.ref 0), some (.int (nI fi)), some (.int y), some (.int zz), none, none, none] [] I J (va_up (va_up G 13 b) 14 c) (fun r I' J' G' => r = none ∧ I' = I ∧ J' = J ∧ ∃ b c, G' = va_up (va_up G 13 b) 14 c ∧ (∀ u, u < 32 → b (32 * Wk + u) = nI 0) ∧ ∀ w, fi ≤ w → w < Wk → ∀ u, u < 2 ^ P → b (32 * w + u) = valO (plV (fun m w => wor (G 11) (G 8) (G 4 w) (G 3 w) P m) (fun w => setN (fun s => decide (G 9 s ≤ nI w)) P) Wk (Wk - w) u) ∧ c (32 * w + u) = nI (chO (plV (fun m w => wor (G 11) (G 8) (G 4 w) (G 3 w) P m) (fun w => setN (fun s => decide (G 9 s ≤ nI w)) P) Wk (Wk - w) u)))) → ∀ (n s : Nat) (x : Int32) (b c : Nat → Int32), (s + n = l + 1) → (x = nI s) → (∀ i, i ≠ 32 * w + l → b i = b0 i ∧ c i = c0 i) → (b (32 * w + l) = bO (-nI 9) (ffF sm sb s)) → (∀ q, ffF sm sb s = some q → c (32 * w + l) = nI q.2) → AW SM mX7_measure 71 [some (.ref 0), some (.int (nI fi)), some (.int y), some (.int zz), some (.int x), none, none] [] I J (va_up (va_up G 13 b) 14 c) (fun r I' J' G' => r = none ∧ I' = I ∧ J' = J ∧ ∃ b c, G' = va_up (va_up G 13 b) 14 c ∧ (∀ u, u < 32 → b (32 * Wk + u) = nI 0) ∧ ∀ w, fi ≤ w → w < Wk → ∀ u, u < 2 ^ P → b (32 * w + u) = valO (plV (fun m w => wor (G 11) (G 8) (G 4 w) (G 3 w) P m) (fun w => setN (fun s => decide (G 9 s ≤ nI w)) P) Wk (Wk - w) u) ∧ c (32 * w + u) = nI (chO (plV (fun m w => wor (G 11) (G 8) (G 4 w) (G 3 w) P m) (fun w => setN (fun s => decide (G 9 s ≤ nI w)) P) Wk (Wk - w) u))) := by
    intro w l y zz b0 c0 sm sb hwk hl hy hz hsb hs0 hpos hsum K9 n
    induction n with
    | zero =>
      intro s x b c hsn hx ho hb hc
      refine aw_run oX7_measure smOk 2 (pc' := 74) (L' := [some (.ref 0), some (.int (nI fi)), some (.int y), some (.int zz), some (.int x), none, none]) (st' := [.int zz, .int x]) (I' := I) (J' := J) (G' := va_up (va_up G 13 b) 14 c) rfl ?_
      refine aw_gtN hx hz (by omega) (by omega) (oX7_measure.dec rfl) (tgt := 189) rfl (fun h74 => ?_) (fun h74 => absurd h74 (by omega))
      refine aw_forget1 4 (L' := [some (.ref 0), some (.int (nI fi)), some (.int y), some (.int zz), none, none, none]) rfl ?_
      obtain rfl : s = l + 1 := by omega
      obtain ⟨q, hq1, -⟩ := ff_ge (sum := sm) (sub := sb) hs0 l
      exact K9 b c ho (by rw [hb, hq1]; rfl) (by rw [hc q hq1, hq1]; rfl)
    | succ n ih =>
      intro s x b c hsn hx ho hb hc
      have han := anN_lt l (by omega) s (by omega)
      refine aw_run oX7_measure smOk 2 (pc' := 74) (L' := [some (.ref 0), some (.int (nI fi)), some (.int y), some (.int zz), some (.int x), none, none]) (st' := [.int zz, .int x]) (I' := I) (J' := J) (G' := va_up (va_up G 13 b) 14 c) rfl ?_
      refine aw_gtN hx hz (by omega) (by omega) (oX7_measure.dec rfl) (tgt := 189) rfl (fun h74 => absurd h74 (by omega)) (fun h74 => ?_)
      refine aw_run oX7_measure smOk 5 (pc' := 83) (L' := [some (.ref 0), some (.int (nI fi)), some (.int y), some (.int zz), some (.int x), none, none]) (st' := [.int (x &&& (zz ^^^ (-nI 1)))]) (I' := I) (J' := J) (G' := va_up (va_up G 13 b) 14 c) rfl ?_
      refine aw_0neN (anNI hx hz (by omega) (by omega)) (Nat.lt_of_lt_of_le (anN_lt _ (by omega) _ (by omega)) (by decide)) (oX7_measure.dec rfl) (tgt := 100) rfl (fun h83 => ?_) (fun h83 => ?_)
      · refine aw_run oX7_measure smOk 3 (pc' := 105) (L' := [some (.ref 0), some (.int (nI fi)), some (.int y), some (.int zz), some (.int x), some (.int (nI 0)), none]) (st' := [.int (nI 0)]) (I' := I) (J' := J) (G' := va_up (va_up G 13 b) 14 c) rfl ?_
        refine aw_0eqN rfl (by omega) (oX7_measure.dec rfl) (tgt := 137) rfl (fun h105 => ?_) (fun h105 => absurd h105 (by omega))
        refine aw_run oX7_measure smOk 10 (pc' := 153) (L' := [some (.ref 0), some (.int (nI fi)), some (.int y), some (.int zz), some (.int x), some (.int (nI 0)), some (.int (-nI 9))]) (st' := [.int (((nI 32) * y) + zz), .ref 13, .int (-nI 9)]) (I' := I) (J' := J) (G' := va_up (va_up G 13 b) 14 c) rfl ?_
        refine aw_iaN (32 * w + l) smOk rfl (addN (mulN rfl hy) hz) (by omega) (oX7_measure.dec rfl) ?_
        refine aw_eqS (st := [.int (b (32 * w + l)), .int (-nI 9)]) rfl ?_
        refine aw_icmp_le (oX7_measure.dec rfl) (tgt := 183) rfl (fun h154 => ?_) (fun h154 => ?_)
        · refine aw_run oX7_measure smOk 2 (pc' := 71) (L' := [some (.ref 0), some (.int (nI fi)), some (.int y), some (.int zz), some (.int (x + (nI 1))), some (.int (nI 0)), some (.int (-nI 9))]) (st' := []) (I' := I) (J' := J) (G' := va_up (va_up G 13 b) 14 c) rfl ?_
          refine aw_forget1 5 (L' := [some (.ref 0), some (.int (nI fi)), some (.int y), some (.int zz), some (.int (x + (nI 1))), none, some (.int (-nI 9))]) rfl ?_
          refine aw_forget1 6 (L' := [some (.ref 0), some (.int (nI fi)), some (.int y), some (.int zz), some (.int (x + (nI 1))), none, none]) rfl ?_
          have hns : ¬ sb s = true := fun h => absurd ((hsb s (by omega)).mp h).1 h83
          exact ih (s + 1) _ _ _ (by omega) (addN hx rfl) ho (by rw [ff_no hns]; exact hb) (by rw [ff_no hns]; exact hc)
        · exact absurd (by rw [hb]; exact ff_bge hs0 hpos s) h154 --done
      · refine aw_run oX7_measure smOk 3 (pc' := 90) (L' := [some (.ref 0), some (.int (nI fi)), some (.int y), some (.int zz), some (.int x), none, none]) (st' := [.int y, .int x, .ref 0]) (I' := I) (J' := J) (G' := va_up (va_up G 13 b) 14 c) rfl ?_
        refine aw_eqS (st := [.int (nI w), .int (nI s), .ref 0]) (by rw [show x = nI s from hx, show y = nI w from hy]) ?_
        refine aw_cV (st := []) 0 [.int (nI s), .int (nI w)] oX7_mayGo k7_160 rfl rfl rfl rfl rfl rfl rfl rfl (oX7_measure.dec rfl) (m_mayGo (I := I) (J := J) (G := va_up (va_up G 13 b) 14 c) hP (by omega) (by omega)) ?_
        refine aw_eqS (st := [.int (b1 (allB (q1 (G 9) s w) P))]) rfl ?_
        refine aw_0eqB (oX7_measure.dec rfl) (tgt := 100) rfl (fun h93 => ?_) (fun h93 => ?_)
        · refine aw_run oX7_measure smOk 3 (pc' := 105) (L' := [some (.ref 0), some (.int (nI fi)), some (.int y), some (.int zz), some (.int x), some (.int (nI 0)), none]) (st' := [.int (nI 0)]) (I' := I) (J' := J) (G' := va_up (va_up G 13 b) 14 c) rfl ?_
          refine aw_0eqN rfl (by omega) (oX7_measure.dec rfl) (tgt := 137) rfl (fun h105 => ?_) (fun h105 => absurd h105 (by omega))
          refine aw_run oX7_measure smOk 10 (pc' := 153) (L' := [some (.ref 0), some (.int (nI fi)), some (.int y), some (.int zz), some (.int x), some (.int (nI 0)), some (.int (-nI 9))]) (st' := [.int (((nI 32) * y) + zz), .ref 13, .int (-nI 9)]) (I' := I) (J' := J) (G' := va_up (va_up G 13 b) 14 c) rfl ?_
          refine aw_iaN (32 * w + l) smOk rfl (addN (mulN rfl hy) hz) (by omega) (oX7_measure.dec rfl) ?_
          refine aw_eqS (st := [.int (b (32 * w + l)), .int (-nI 9)]) rfl ?_
          refine aw_icmp_le (oX7_measure.dec rfl) (tgt := 183) rfl (fun h154 => ?_) (fun h154 => ?_)
          · refine aw_run oX7_measure smOk 2 (pc' := 71) (L' := [some (.ref 0), some (.int (nI fi)), some (.int y), some (.int zz), some (.int (x + (nI 1))), some (.int (nI 0)), some (.int (-nI 9))]) (st' := []) (I' := I) (J' := J) (G' := va_up (va_up G 13 b) 14 c) rfl ?_
            refine aw_forget1 5 (L' := [some (.ref 0), some (.int (nI fi)), some (.int y), some (.int zz), some (.int (x + (nI 1))), none, some (.int (-nI 9))]) rfl ?_
            refine aw_forget1 6 (L' := [some (.ref 0), some (.int (nI fi)), some (.int y), some (.int zz), some (.int (x + (nI 1))), none, none]) rfl ?_
            have hns : ¬ sb s = true := fun h => by rw [((hsb s (by omega)).mp h).2] at h93; cases h93
            exact ih (s + 1) _ _ _ (by omega) (addN hx rfl) ho (by rw [ff_no hns]; exact hb) (by rw [ff_no hns]; exact hc)
          · exact absurd (by rw [hb]; exact ff_bge hs0 hpos s) h154 --done
        · refine aw_run oX7_measure smOk 4 (pc' := 105) (L' := [some (.ref 0), some (.int (nI fi)), some (.int y), some (.int zz), some (.int x), some (.int (nI 1)), none]) (st' := [.int (nI 1)]) (I' := I) (J' := J) (G' := va_up (va_up G 13 b) 14 c) rfl ?_
          refine aw_0eqN rfl (by omega) (oX7_measure.dec rfl) (tgt := 137) rfl (fun h105 => absurd h105 (by omega)) (fun h105 => ?_)
          refine aw_run oX7_measure smOk 3 (pc' := 112) (L' := [some (.ref 0), some (.int (nI fi)), some (.int y), some (.int zz), some (.int x), some (.int (nI 1)), none]) (st' := [.int y, .int x, .ref 0]) (I' := I) (J' := J) (G' := va_up (va_up G 13 b) 14 c) rfl ?_
          refine aw_eqS (st := [.int (nI w), .int (nI s), .ref 0]) (by rw [show x = nI s from hx, show y = nI w from hy]) ?_
          refine aw_cV (st := []) 0 [.int (nI s), .int (nI w)] oX7_worthOf k7_157 rfl rfl rfl rfl rfl rfl rfl rfl (oX7_measure.dec rfl) (m_worthOf (I := I) (J := J) (G := va_up (va_up G 13 b) 14 c) hP (by omega) (by omega) (by omega)) ?_
          refine aw_eqS (st := [.int (wor (G 11) (G 8) (G 4 w) (G 3 w) P s)]) rfl ?_
          refine aw_run oX7_measure smOk 13 (pc' := 132) (L' := [some (.ref 0), some (.int (nI fi)), some (.int y), some (.int zz), some (.int x), some (.int (nI 1)), none]) (st' := [.int (((nI 32) * (y + (nI 1))) + (zz &&& (x ^^^ (-nI 1)))), .ref 13, .int (wor (G 11) (G 8) (G 4 w) (G 3 w) P s)]) (I' := I) (J' := J) (G' := va_up (va_up G 13 b) 14 c) rfl ?_
          refine aw_iaN (32 * (w + 1) + (anN l s)) smOk rfl (addN (mulN rfl (addN hy rfl)) (anNI hz hx (by omega) (by omega))) (by omega) (oX7_measure.dec rfl) ?_
          refine aw_eqS (st := [.int (b (32 * (w + 1) + (anN l s))), .int (wor (G 11) (G 8) (G 4 w) (G 3 w) P s)]) rfl ?_
          refine aw_run oX7_measure smOk 11 (pc' := 153) (L' := [some (.ref 0), some (.int (nI fi)), some (.int y), some (.int zz), some (.int x), some (.int (nI 1)), some (.int ((wor (G 11) (G 8) (G 4 w) (G 3 w) P s) + (b (32 * (w + 1) + (anN l s)))))]) (st' := [.int (((nI 32) * y) + zz), .ref 13, .int ((wor (G 11) (G 8) (G 4 w) (G 3 w) P s) + (b (32 * (w + 1) + (anN l s))))]) (I' := I) (J' := J) (G' := va_up (va_up G 13 b) 14 c) rfl ?_
          refine aw_iaN (32 * w + l) smOk rfl (addN (mulN rfl hy) hz) (by omega) (oX7_measure.dec rfl) ?_
          refine aw_eqS (st := [.int (b (32 * w + l)), .int ((wor (G 11) (G 8) (G 4 w) (G 3 w) P s) + (b (32 * (w + 1) + (anN l s))))]) rfl ?_
          refine aw_icmp_le (oX7_measure.dec rfl) (tgt := 183) rfl (fun h154 => ?_) (fun h154 => ?_)
          · refine aw_run oX7_measure smOk 2 (pc' := 71) (L' := [some (.ref 0), some (.int (nI fi)), some (.int y), some (.int zz), some (.int (x + (nI 1))), some (.int (nI 1)), some (.int ((wor (G 11) (G 8) (G 4 w) (G 3 w) P s) + (b (32 * (w + 1) + (anN l s)))))]) (st' := []) (I' := I) (J' := J) (G' := va_up (va_up G 13 b) 14 c) rfl ?_
            refine aw_forget1 5 (L' := [some (.ref 0), some (.int (nI fi)), some (.int y), some (.int zz), some (.int (x + (nI 1))), none, some (.int ((wor (G 11) (G 8) (G 4 w) (G 3 w) P s) + (b (32 * (w + 1) + (anN l s)))))]) rfl ?_
            refine aw_forget1 6 (L' := [some (.ref 0), some (.int (nI fi)), some (.int y), some (.int zz), some (.int (x + (nI 1))), none, none]) rfl ?_
            have hss : sb s = true := (hsb s (by omega)).mpr ⟨h83, h93⟩
            have hsm : wor (G 11) (G 8) (G 4 w) (G 3 w) P s + b (32 * (w + 1) + anN l s) = sm s := by
              rw [(ho _ (by omega)).1]; exact hsum s (by omega) hss
            rw [hsm, hb] at h154
            exact ih (s + 1) _ _ _ (by omega) (addN hx rfl) ho (by rw [ff_old hss hs0 (Int32.lt_of_lt_of_le (by decide) hpos) h154]; exact hb) (by rw [ff_old hss hs0 (Int32.lt_of_lt_of_le (by decide) hpos) h154]; exact hc)
          · refine aw_run oX7_measure smOk 8 (pc' := 169) (L' := [some (.ref 0), some (.int (nI fi)), some (.int y), some (.int zz), some (.int x), some (.int (nI 1)), some (.int ((wor (G 11) (G 8) (G 4 w) (G 3 w) P s) + (b (32 * (w + 1) + (anN l s)))))]) (st' := [.int ((wor (G 11) (G 8) (G 4 w) (G 3 w) P s) + (b (32 * (w + 1) + (anN l s)))), .int (((nI 32) * y) + zz), .ref 13]) (I' := I) (J' := J) (G' := va_up (va_up G 13 b) 14 c) rfl ?_
            refine aw_isN (32 * w + l) smOk rfl (addN (mulN rfl hy) hz) (by omega) (oX7_measure.dec rfl) ?_
            refine aw_eqG (G' := va_up (va_up G 13 (upd b (32 * w + l) ((wor (G 11) (G 8) (G 4 w) (G 3 w) P s) + (b (32 * (w + 1) + (anN l s)))))) 14 c) (by funext q; simp only [va_up]; repeat' split; all_goals first | rfl | (exfalso; omega) | simp_all) ?_
            refine aw_run oX7_measure smOk 8 (pc' := 182) (L' := [some (.ref 0), some (.int (nI fi)), some (.int y), some (.int zz), some (.int x), some (.int (nI 1)), some (.int ((wor (G 11) (G 8) (G 4 w) (G 3 w) P s) + (b (32 * (w + 1) + (anN l s)))))]) (st' := [.int x, .int (((nI 32) * y) + zz), .ref 14]) (I' := I) (J' := J) (G' := va_up (va_up G 13 (upd b (32 * w + l) ((wor (G 11) (G 8) (G 4 w) (G 3 w) P s) + (b (32 * (w + 1) + (anN l s)))))) 14 c) rfl ?_
            refine aw_isN (32 * w + l) smOk rfl (addN (mulN rfl hy) hz) (by omega) (oX7_measure.dec rfl) ?_
            refine aw_eqG (G' := va_up (va_up G 13 (upd b (32 * w + l) ((wor (G 11) (G 8) (G 4 w) (G 3 w) P s) + (b (32 * (w + 1) + (anN l s)))))) 14 (upd c (32 * w + l) x)) (bx_uu _ _ _ _) ?_
            refine aw_run oX7_measure smOk 2 (pc' := 71) (L' := [some (.ref 0), some (.int (nI fi)), some (.int y), some (.int zz), some (.int (x + (nI 1))), some (.int (nI 1)), some (.int ((wor (G 11) (G 8) (G 4 w) (G 3 w) P s) + (b (32 * (w + 1) + (anN l s)))))]) (st' := []) (I' := I) (J' := J) (G' := va_up (va_up G 13 (upd b (32 * w + l) ((wor (G 11) (G 8) (G 4 w) (G 3 w) P s) + (b (32 * (w + 1) + (anN l s)))))) 14 (upd c (32 * w + l) x)) rfl ?_
            refine aw_forget1 5 (L' := [some (.ref 0), some (.int (nI fi)), some (.int y), some (.int zz), some (.int (x + (nI 1))), none, some (.int ((wor (G 11) (G 8) (G 4 w) (G 3 w) P s) + (b (32 * (w + 1) + (anN l s)))))]) rfl ?_
            refine aw_forget1 6 (L' := [some (.ref 0), some (.int (nI fi)), some (.int y), some (.int zz), some (.int (x + (nI 1))), none, none]) rfl ?_
            have hss : sb s = true := (hsb s (by omega)).mpr ⟨h83, h93⟩
            have hsm : wor (G 11) (G 8) (G 4 w) (G 3 w) P s + b (32 * (w + 1) + anN l s) = sm s := by
              rw [(ho _ (by omega)).1]; exact hsum s (by omega) hss
            rw [hsm, hb] at h154
            exact ih (s + 1) _ _ _ (by omega) (addN hx rfl) (fun i hi => by rw [pk_un hi, pk_un hi]; exact ho i hi) (by rw [pk_us, ff_new hss h154]; exact hsm) (fun q hq => by rw [ff_new hss h154] at hq; cases hq; rw [pk_us]; exact hx)
  have mid : ∀ (w : Nat) (y : Int32) (b0 c0 : Nat → Int32), w < Wk → y = nI w → (∀ u, u < 2 ^ P → b0 (32 * (w + 1) + u) = valO (plV (fun m w => wor (G 11) (G 8) (G 4 w) (G 3 w) P m) (fun w => setN (fun s => decide (G 9 s ≤ nI w)) P) Wk (Wk - (w + 1)) u)) → (∀ (b c : Nat → Int32), (∀ i, 32 * (w + 1) ≤ i → b i = b0 i ∧ c i = c0 i) → (∀ u, u < 2 ^ P → b (32 * w + u) = valO (plV (fun m w => wor (G 11) (G 8) (G 4 w) (G 3 w) P m) (fun w => setN (fun s => decide (G 9 s ≤ nI w)) P) Wk (Wk - w) u) ∧ c (32 * w + u) = nI (chO (plV (fun m w => wor (G 11) (G 8) (G 4 w) (G 3 w) P m) (fun w => setN (fun s => decide (G 9 s ≤ nI w)) P) Wk (Wk - w) u))) → AW SM mX7_measure 195 [some (.ref 0), some (.int (nI fi)), some (.int y), none, none, none, none] [] I J (va_up (va_up G 13 b) 14 c) (fun r I' J' G' => r = none ∧ I' = I ∧ J' = J ∧ ∃ b c, G' = va_up (va_up G 13 b) 14 c ∧ (∀ u, u < 32 → b (32 * Wk + u) = nI 0) ∧ ∀ w, fi ≤ w → w < Wk → ∀ u, u < 2 ^ P → b (32 * w + u) = valO (plV (fun m w => wor (G 11) (G 8) (G 4 w) (G 3 w) P m) (fun w => setN (fun s => decide (G 9 s ≤ nI w)) P) Wk (Wk - w) u) ∧ c (32 * w + u) = nI (chO (plV (fun m w => wor (G 11) (G 8) (G 4 w) (G 3 w) P m) (fun w => setN (fun s => decide (G 9 s ≤ nI w)) P) Wk (Wk - w) u)))) → ∀ (n s : Nat) (x : Int32) (b c : Nat → Int32), (s + n = 2 ^ P) → (x = nI s) → (∀ i, 32 * (w + 1) ≤ i → b i = b0 i ∧ c i = c0 i) → (∀ u, u < s → b (32 * w + u) = valO (plV (fun m w => wor (G 11) (G 8) (G 4 w) (G 3 w) P m) (fun w => setN (fun s => decide (G 9 s ≤ nI w)) P) Wk (Wk - w) u) ∧ c (32 * w + u) = nI (chO (plV (fun m w => wor (G 11) (G 8) (G 4 w) (G 3 w) P m) (fun w => setN (fun s => decide (G 9 s ≤ nI w)) P) Wk (Wk - w) u))) → AW SM mX7_measure 47 [some (.ref 0), some (.int (nI fi)), some (.int y), some (.int x), none, none, none] [] I J (va_up (va_up G 13 b) 14 c) (fun r I' J' G' => r = none ∧ I' = I ∧ J' = J ∧ ∃ b c, G' = va_up (va_up G 13 b) 14 c ∧ (∀ u, u < 32 → b (32 * Wk + u) = nI 0) ∧ ∀ w, fi ≤ w → w < Wk → ∀ u, u < 2 ^ P → b (32 * w + u) = valO (plV (fun m w => wor (G 11) (G 8) (G 4 w) (G 3 w) P m) (fun w => setN (fun s => decide (G 9 s ≤ nI w)) P) Wk (Wk - w) u) ∧ c (32 * w + u) = nI (chO (plV (fun m w => wor (G 11) (G 8) (G 4 w) (G 3 w) P m) (fun w => setN (fun s => decide (G 9 s ≤ nI w)) P) Wk (Wk - w) u))) := by
    intro w y b0 c0 hwk hy hup K8 n
    induction n with
    | zero =>
      intro s x b c hsn hx hk hd
      refine aw_run oX7_measure smOk 2 (pc' := 49) (L' := [some (.ref 0), some (.int (nI fi)), some (.int y), some (.int x), none, none, none]) (st' := [.ref 0, .int x]) (I' := I) (J' := J) (G' := va_up (va_up G 13 b) 14 c) rfl ?_
      refine aw_cV (st := [.int x]) 0 [] oX7_all k7_138 rfl rfl rfl rfl rfl rfl rfl rfl (oX7_measure.dec rfl) (m_all (I := I) (J := J) (G := va_up (va_up G 13 b) 14 c) hP (by omega)) ?_
      refine aw_eqS (st := [.int (nI (2 ^ P - 1)), .int x]) rfl ?_
      refine aw_gtN hx rfl (by omega) (by omega) (oX7_measure.dec rfl) (tgt := 195) rfl (fun h52 => ?_) (fun h52 => absurd h52 (by omega))
      refine aw_forget1 3 (L' := [some (.ref 0), some (.int (nI fi)), some (.int y), none, none, none, none]) rfl ?_
      exact K8 b c hk (fun u hu => hd u (by omega))
    | succ n ih =>
      intro s x b c hsn hx hk hd
      refine aw_run oX7_measure smOk 2 (pc' := 49) (L' := [some (.ref 0), some (.int (nI fi)), some (.int y), some (.int x), none, none, none]) (st' := [.ref 0, .int x]) (I' := I) (J' := J) (G' := va_up (va_up G 13 b) 14 c) rfl ?_
      refine aw_cV (st := [.int x]) 0 [] oX7_all k7_138 rfl rfl rfl rfl rfl rfl rfl rfl (oX7_measure.dec rfl) (m_all (I := I) (J := J) (G := va_up (va_up G 13 b) 14 c) hP (by omega)) ?_
      refine aw_eqS (st := [.int (nI (2 ^ P - 1)), .int x]) rfl ?_
      refine aw_gtN hx rfl (by omega) (by omega) (oX7_measure.dec rfl) (tgt := 195) rfl (fun h52 => absurd h52 (by omega)) (fun h52 => ?_)
      refine aw_run oX7_measure smOk 8 (pc' := 67) (L' := [some (.ref 0), some (.int (nI fi)), some (.int y), some (.int x), none, none, none]) (st' := [.int (-nI 9), .int (((nI 32) * y) + x), .ref 13]) (I' := I) (J' := J) (G' := va_up (va_up G 13 b) 14 c) rfl ?_
      refine aw_isN (32 * w + s) smOk rfl (addN (mulN rfl hy) hx) (by omega) (oX7_measure.dec rfl) ?_
      refine aw_eqG (G' := va_up (va_up G 13 (upd b (32 * w + s) (-nI 9))) 14 c) (by funext q; simp only [va_up]; repeat' split; all_goals first | rfl | (exfalso; omega) | simp_all) ?_
      refine aw_run oX7_measure smOk 2 (pc' := 71) (L' := [some (.ref 0), some (.int (nI fi)), some (.int y), some (.int x), some (.int (nI 0)), none, none]) (st' := []) (I' := I) (J' := J) (G' := va_up (va_up G 13 (upd b (32 * w + s) (-nI 9))) 14 c) rfl ?_
      have hlt := and_lt s (by omega) _ (hrd w)
      have hpos : nI 0 ≤ (fun m => wor (G 11) (G 8) (G 4 w) (G 3 w) P m + valO (plV (fun m w => wor (G 11) (G 8) (G 4 w) (G 3 w) P m) (fun w => setN (fun s => decide (G 9 s ≤ nI w)) P) Wk (Wk - (w + 1)) (anN s m))) 0 := by
        show nI 0 ≤ wor (G 11) (G 8) (G 4 w) (G 3 w) P 0 + valO (plV (fun m w => wor (G 11) (G 8) (G 4 w) (G 3 w) P m) (fun w => setN (fun s => decide (G 9 s ≤ nI w)) P) Wk (Wk - (w + 1)) (anN s 0))
        rw [wor_0, an_00 s (by omega), show nI 0 + valO (plV (fun m w => wor (G 11) (G 8) (G 4 w) (G 3 w) P m) (fun w => setN (fun s => decide (G 9 s ≤ nI w)) P) Wk (Wk - (w + 1)) s) = valO (plV (fun m w => wor (G 11) (G 8) (G 4 w) (G 3 w) P m) (fun w => setN (fun s => decide (G 9 s ≤ nI w)) P) Wk (Wk - (w + 1)) s) from Int32.zero_add _]
        exact plV_pos (wo := fun m w => wor (G 11) (G 8) (G 4 w) (G 3 w) P m) (fun w => wor_0 _ _ _ _ _) hrd (Wk - (w + 1)) s (by omega)
      have hfin : ffF (fun m => wor (G 11) (G 8) (G 4 w) (G 3 w) P m + valO (plV (fun m w => wor (G 11) (G 8) (G 4 w) (G 3 w) P m) (fun w => setN (fun s => decide (G 9 s ≤ nI w)) P) Wk (Wk - (w + 1)) (anN s m))) (fun m => subB m (s &&& setN (fun s => decide (G 9 s ≤ nI w)) P)) (s + 1) = plV (fun m w => wor (G 11) (G 8) (G 4 w) (G 3 w) P m) (fun w => setN (fun s => decide (G 9 s ≤ nI w)) P) Wk (Wk - w) s := by
        obtain ⟨nn, hnn⟩ : ∃ nn, Wk - w = nn + 1 := ⟨Wk - w - 1, by omega⟩
        rw [hnn, plV_s, show Wk - (nn + 1) = w by omega, show Wk - (w + 1) = nn by omega]
        have hcut := ff_cut (sum := fun m => wor (G 11) (G 8) (G 4 w) (G 3 w) P m + valO (plV (fun m w => wor (G 11) (G 8) (G 4 w) (G 3 w) P m) (fun w => setN (fun s => decide (G 9 s ≤ nI w)) P) Wk nn (anN s m))) (sub := fun m => subB m (s &&& setN (fun s => decide (G 9 s ≤ nI w)) P)) (a := s + 1) (31 - s) (fun m h1 h2 hs2 => by
          have h5 := an_le m (by omega) _ hlt (by unfold subB at hs2; simpa using hs2)
          have h6 := and_le' s (by omega) _ (hrd w)
          omega)
        rw [show s + 1 + (31 - s) = 32 by omega] at hcut
        exact hcut.symm
      have hsb : ∀ m, m ≤ s → (subB m (s &&& setN (fun s => decide (G 9 s ≤ nI w)) P) = true ↔ anN m s = 0 ∧ allB (q1 (G 9) m w) P = true) := by
        intro m hm
        rw [may_eq (by omega) hP5]
        unfold subB
        rw [decide_eq_true_eq, decide_eq_true_eq]
        exact an_both (by omega) (by omega) (hrd w)
      have hsum : ∀ m, m ≤ s → subB m (s &&& setN (fun s => decide (G 9 s ≤ nI w)) P) = true → wor (G 11) (G 8) (G 4 w) (G 3 w) P m + (upd b (32 * w + s) (-nI 9)) (32 * (w + 1) + anN s m) = wor (G 11) (G 8) (G 4 w) (G 3 w) P m + valO (plV (fun m w => wor (G 11) (G 8) (G 4 w) (G 3 w) P m) (fun w => setN (fun s => decide (G 9 s ≤ nI w)) P) Wk (Wk - (w + 1)) (anN s m)) := by
        intro m hm _
        have h7 := an_le' s (by omega) m (by omega)
        rw [pk_un (by omega), (hk _ (by omega)).1, hup _ (by omega)]
      exact inner w s _ _ (upd b (32 * w + s) (-nI 9)) c (fun m => wor (G 11) (G 8) (G 4 w) (G 3 w) P m + valO (plV (fun m w => wor (G 11) (G 8) (G 4 w) (G 3 w) P m) (fun w => setN (fun s => decide (G 9 s ≤ nI w)) P) Wk (Wk - (w + 1)) (anN s m))) (fun m => subB m (s &&& setN (fun s => decide (G 9 s ≤ nI w)) P)) hwk (by omega) hy hx hsb (subB_0 hlt) hpos hsum (fun b2 c2 ho2 hb2 hc2 => by
        refine aw_run oX7_measure smOk 2 (pc' := 47) (L' := [some (.ref 0), some (.int (nI fi)), some (.int y), some (.int (x + nI 1)), none, none, none]) (st' := []) (I' := I) (J' := J) (G' := va_up (va_up G 13 b2) 14 c2) rfl ?_
        exact ih (s + 1) _ _ _ (by omega) (addN hx rfl) (fun i hi => by have h1 := ho2 i (by omega); rw [pk_un (by omega)] at h1; exact ⟨h1.1.trans (hk i hi).1, h1.2.trans (hk i hi).2⟩) (fun u hu => by
          by_cases e : u = s
          · subst e; rw [hfin] at hb2 hc2; exact ⟨hb2, hc2⟩
          · have h1 := ho2 (32 * w + u) (by omega); rw [pk_un (by omega)] at h1; have h2 := hd u (by omega); exact ⟨h1.1.trans h2.1, h1.2.trans h2.2⟩)) (s + 1) 0 _ _ _ (by omega) rfl (fun i hi => ⟨rfl, rfl⟩) pk_us (fun q hq => by cases hq)
  have outer : ∀ (d : Nat) (x : Int32) (b c : Nat → Int32), (x = nI (fi + d) - nI 1) → (fi + d ≤ Wk) → (∀ u, u < 32 → b (32 * Wk + u) = nI 0) → (∀ w, fi + d ≤ w → w < Wk → ∀ u, u < 2 ^ P → b (32 * w + u) = valO (plV (fun m w => wor (G 11) (G 8) (G 4 w) (G 3 w) P m) (fun w => setN (fun s => decide (G 9 s ≤ nI w)) P) Wk (Wk - w) u) ∧ c (32 * w + u) = nI (chO (plV (fun m w => wor (G 11) (G 8) (G 4 w) (G 3 w) P m) (fun w => setN (fun s => decide (G 9 s ≤ nI w)) P) Wk (Wk - w) u))) → AW SM mX7_measure 40 [some (.ref 0), some (.int (nI fi)), some (.int x), none, none, none, none] [] I J (va_up (va_up G 13 b) 14 c) (fun r I' J' G' => r = none ∧ I' = I ∧ J' = J ∧ ∃ b c, G' = va_up (va_up G 13 b) 14 c ∧ (∀ u, u < 32 → b (32 * Wk + u) = nI 0) ∧ ∀ w, fi ≤ w → w < Wk → ∀ u, u < 2 ^ P → b (32 * w + u) = valO (plV (fun m w => wor (G 11) (G 8) (G 4 w) (G 3 w) P m) (fun w => setN (fun s => decide (G 9 s ≤ nI w)) P) Wk (Wk - w) u) ∧ c (32 * w + u) = nI (chO (plV (fun m w => wor (G 11) (G 8) (G 4 w) (G 3 w) P m) (fun w => setN (fun s => decide (G 9 s ≤ nI w)) P) Wk (Wk - w) u))) := by
    intro d
    induction d with
    | zero =>
      intro x b c hx hdW h0 htb
      refine aw_run oX7_measure smOk 2 (pc' := 42) (L' := [some (.ref 0), some (.int (nI fi)), some (.int x), none, none, none, none]) (st' := [.int (nI fi), .int x]) (I' := I) (J' := J) (G' := va_up (va_up G 13 b) 14 c) rfl ?_
      refine aw_icmp_lt (oX7_measure.dec rfl) (tgt := 201) rfl (fun h42 => ?_) (fun h42 => absurd (by rw [hx]; exact lt_pred (by omega)) h42)
      exact aw_vret rfl (oX7_measure.dec rfl) (⟨rfl, rfl, rfl, b, c, rfl, h0, htb⟩)
    | succ d ih =>
      intro x b c hx hdW h0 htb
      have hx2 : x = nI (fi + d) := by rw [hx]; exact subN rfl rfl (by omega)
      have hup9 : ∀ u, u < 2 ^ P → b (32 * (fi + d + 1) + u) = valO (plV (fun m w => wor (G 11) (G 8) (G 4 w) (G 3 w) P m) (fun w => setN (fun s => decide (G 9 s ≤ nI w)) P) Wk (Wk - (fi + d + 1)) u) := by
        intro u hu
        by_cases e : fi + d + 1 = Wk
        · rw [e, h0 u (by omega), Nat.sub_self]; rfl
        · exact (htb (fi + d + 1) (by omega) (by omega) u hu).1
      refine aw_run oX7_measure smOk 2 (pc' := 42) (L' := [some (.ref 0), some (.int (nI fi)), some (.int x), none, none, none, none]) (st' := [.int (nI fi), .int x]) (I' := I) (J' := J) (G' := va_up (va_up G 13 b) 14 c) rfl ?_
      refine aw_ltN hx2 rfl (by omega) (by omega) (oX7_measure.dec rfl) (tgt := 201) rfl (fun h42 => absurd h42 (by omega)) (fun h42 => ?_)
      refine aw_run oX7_measure smOk 2 (pc' := 47) (L' := [some (.ref 0), some (.int (nI fi)), some (.int x), some (.int (nI 0)), none, none, none]) (st' := []) (I' := I) (J' := J) (G' := va_up (va_up G 13 b) 14 c) rfl ?_
      exact mid (fi + d) _ b c (by omega) hx2 hup9 (fun b2 c2 hk2 hd2 => by
        refine aw_run oX7_measure smOk 2 (pc' := 40) (L' := [some (.ref 0), some (.int (nI fi)), some (.int (x + -nI 1)), none, none, none, none]) (st' := []) (I' := I) (J' := J) (G' := va_up (va_up G 13 b2) 14 c2) rfl ?_
        exact ih _ _ _ (by rw [hx2, Int32.sub_eq_add_neg]) (by omega) (fun u hu => by rw [(hk2 _ (by omega)).1]; exact h0 u hu) (fun w h1 h2 u hu => by
          by_cases e : w = fi + d
          · subst e; exact hd2 u hu
          · have h3 := hk2 (32 * w + u) (by omega); have h4 := htb w (by omega) h2 u hu; exact ⟨h3.1.trans h4.1, h3.2.trans h4.2⟩)) (2 ^ P) 0 _ _ _ (by omega) rfl (fun i hi => ⟨rfl, rfl⟩) (fun u hu => absurd hu (by omega))
  have fill : ∀ (n s : Nat) (x : Int32) (b : Nat → Int32) (c : Nat → Int32), (s + n = 32) → (x = nI s) → (∀ i, i < s → b (32 * Wk + i) = nI 0) → AW SM mX7_measure 2 [some (.ref 0), some (.int (nI fi)), some (.int x), none, none, none, none] [] I J (va_up (va_up G 13 b) 14 c) (fun r I' J' G' => r = none ∧ I' = I ∧ J' = J ∧ ∃ b c, G' = va_up (va_up G 13 b) 14 c ∧ (∀ u, u < 32 → b (32 * Wk + u) = nI 0) ∧ ∀ w, fi ≤ w → w < Wk → ∀ u, u < 2 ^ P → b (32 * w + u) = valO (plV (fun m w => wor (G 11) (G 8) (G 4 w) (G 3 w) P m) (fun w => setN (fun s => decide (G 9 s ≤ nI w)) P) Wk (Wk - w) u) ∧ c (32 * w + u) = nI (chO (plV (fun m w => wor (G 11) (G 8) (G 4 w) (G 3 w) P m) (fun w => setN (fun s => decide (G 9 s ≤ nI w)) P) Wk (Wk - w) u))) := by
    intro n
    induction n with
    | zero =>
      intro s x b c hsn hx hz
      refine aw_run oX7_measure smOk 2 (pc' := 5) (L' := [some (.ref 0), some (.int (nI fi)), some (.int x), none, none, none, none]) (st' := [.int (nI 32), .int x]) (I' := I) (J' := J) (G' := va_up (va_up G 13 b) 14 c) rfl ?_
      refine aw_geN hx rfl (by omega) (by omega) (oX7_measure.dec rfl) (tgt := 31) rfl (fun h5 => ?_) (fun h5 => absurd h5 (by omega))
      refine aw_run oX7_measure smOk 3 (pc' := 36) (L' := [some (.ref 0), some (.int (nI fi)), some (.int x), none, none, none, none]) (st' := [.int (nI 0), .ref 2]) (I' := I) (J' := J) (G' := va_up (va_up G 13 b) 14 c) rfl ?_
      refine aw_iaN 0 smOk rfl rfl (by omega) (oX7_measure.dec rfl) ?_
      refine aw_eqS (st := [.int (G 2 0)]) rfl ?_
      refine aw_run oX7_measure smOk 3 (pc' := 40) (L' := [some (.ref 0), some (.int (nI fi)), some (.int ((G 2 0) - (nI 1))), none, none, none, none]) (st' := []) (I' := I) (J' := J) (G' := va_up (va_up G 13 b) 14 c) rfl ?_
      exact outer (Wk - fi) _ _ _ (by rw [hW, show fi + (Wk - fi) = Wk by omega]) (by omega) (fun u hu => hz u (by omega)) (fun w h1 h2 => absurd h2 (by omega))
    | succ n ih =>
      intro s x b c hsn hx hz
      refine aw_run oX7_measure smOk 2 (pc' := 5) (L' := [some (.ref 0), some (.int (nI fi)), some (.int x), none, none, none, none]) (st' := [.int (nI 32), .int x]) (I' := I) (J' := J) (G' := va_up (va_up G 13 b) 14 c) rfl ?_
      refine aw_geN hx rfl (by omega) (by omega) (oX7_measure.dec rfl) (tgt := 31) rfl (fun h5 => absurd h5 (by omega)) (fun h5 => ?_)
      refine aw_run oX7_measure smOk 6 (pc' := 19) (L' := [some (.ref 0), some (.int (nI fi)), some (.int x), none, none, none, none]) (st' := [.int (nI 0), .ref 2, .int (nI 32), .ref 13]) (I' := I) (J' := J) (G' := va_up (va_up G 13 b) 14 c) rfl ?_
      refine aw_iaN 0 smOk rfl rfl (by omega) (oX7_measure.dec rfl) ?_
      refine aw_eqS (st := [.int (G 2 0), .int (nI 32), .ref 13]) rfl ?_
      refine aw_run oX7_measure smOk 4 (pc' := 24) (L' := [some (.ref 0), some (.int (nI fi)), some (.int x), none, none, none, none]) (st' := [.int (nI 0), .int (((nI 32) * (G 2 0)) + x), .ref 13]) (I' := I) (J' := J) (G' := va_up (va_up G 13 b) 14 c) rfl ?_
      refine aw_isN (32 * Wk + s) smOk rfl (addN (mulN rfl hW) hx) (by omega) (oX7_measure.dec rfl) ?_
      refine aw_eqG (G' := va_up (va_up G 13 (upd b (32 * Wk + s) (nI 0))) 14 c) (by funext q; simp only [va_up]; repeat' split; all_goals first | rfl | (exfalso; omega) | simp_all) ?_
      refine aw_run oX7_measure smOk 2 (pc' := 2) (L' := [some (.ref 0), some (.int (nI fi)), some (.int (x + (nI 1))), none, none, none, none]) (st' := []) (I' := I) (J' := J) (G' := va_up (va_up G 13 (upd b (32 * Wk + s) (nI 0))) 14 c) rfl ?_
      exact ih (s + 1) _ _ _ (by omega) (addN hx rfl) (fun i hi => by by_cases e : i = s; (subst e; exact pk_us); (rw [pk_un (by omega)]; exact hz i (by omega)))
  refine aw_run oX7_measure smOk 2 (pc' := 2) (L' := [some (.ref 0), some (.int (nI fi)), some (.int (nI 0)), none, none, none, none]) (st' := []) (I' := I) (J' := J) (G' := G) rfl ?_
  refine aw_eqG (G' := va_up (va_up G 13 (G 13)) 14 (G 14)) (by rw [upG_id G 13, upG_id G 14]) ?_
  exact fill 32 0 _ _ _ (by omega) rfl (fun i hi => absurd hi (by omega))
set_option maxRecDepth 20000 in
theorem m_plan_all {I : II} {J : JJ} {G : II} {P : Nat} (hP : G 5 0 = nI P) (hP5 : P ≤ 5) {Wk : Nat} (hW : G 2 0 = nI Wk) (hWk : Wk ≤ 12) {t : Nat} (ht : G 11 0 = nI t) (ht12 : t ≤ 12) (htW : t ≤ Wk) : AMet SM mX7_plan [.ref 0, .int (-nI 1)] I J G (fun r I' J' G' => r = some (.int (valO (plV (fun m w => wor (G 11) (G 8) (G 4 w) (G 3 w) P m) (fun w => setN (fun s => decide (G 9 s ≤ nI w)) P) Wk (Wk - t) (setN (fun s => decide (G 11 (3 + s) = nI 0)) P)))) ∧ I' = I ∧ J' = J ∧ ∃ b c, G' = va_up (va_up G 13 b) 14 c) := by
  have hp32 : 2 ^ P ≤ 32 := Nat.pow_le_pow_right (by decide) hP5
  have hpo : setN (fun s => decide (G 11 (3 + s) = nI 0)) P < 2 ^ P := setN_lt _ _
  have hrd : ∀ w, setN (fun s => decide (G 9 s ≤ nI w)) P < 32 := fun w => Nat.lt_of_lt_of_le (setN_lt _ _) hp32
  refine amet_en oX7_plan rfl rfl (L := [some (.ref 0), some (.int (-nI 1)), none, none]) rfl ?_
  by_cases hlt : t < Wk
  · refine aw_run oX7_plan smOk 2 (pc' := 2) (L' := [some (.ref 0), some (.int (-nI 1)), none, none]) (st' := [.int (-nI 1), .int (-nI 1)]) (I' := I) (J' := J) (G' := G) rfl ?_
    refine aw_icmp_eq (oX7_plan.dec rfl) (tgt := 28) rfl (fun h2 => ?_) (fun h2 => by first | exact absurd h2 (by assumption) | exact absurd (by assumption) h2 | (exfalso; revert h2; decide) | simp_all)
    refine aw_run oX7_plan smOk 4 (pc' := 34) (L' := [some (.ref 0), some (.int (-nI 1)), none, none]) (st' := [.int (nI 0), .ref 11, .ref 0]) (I' := I) (J' := J) (G' := G) rfl ?_
    refine aw_iaN 0 smOk rfl rfl (by omega) (oX7_plan.dec rfl) ?_
    refine aw_eqS (st := [.int (nI t), .ref 0]) (by rw [show G 11 0 = nI t from ht]) ?_
    refine aw_cVP (st := []) 0 [.int (nI t)] oX7_measure k7_164 rfl rfl rfl rfl rfl rfl rfl rfl (oX7_plan.dec rfl) (m_measure hP (by omega) hW (by omega) (by omega)) (fun r35 I35 J35 G35 hq35 => ?_)
    obtain ⟨hr, hI, hJ, b, c, hG, h0, htb⟩ := hq35
    obtain rfl := hr.symm; obtain rfl := hI.symm; obtain rfl := hJ.symm; obtain rfl := hG.symm
    refine aw_eqS (st := []) rfl ?_
    refine aw_run oX7_plan smOk 2 (pc' := 40) (L' := [some (.ref 0), some (.int (-nI 1)), none, none]) (st' := [.int (nI 0), .ref 0]) (I' := I) (J' := J) (G' := va_up (va_up G 13 b) 14 c) rfl ?_
    refine aw_cV (st := []) 0 [.int (nI 0)] oX7_setIn k7_127 rfl rfl rfl rfl rfl rfl rfl rfl (oX7_plan.dec rfl) (m_setIn (I := I) (J := J) (G := va_up (va_up G 13 b) 14 c) hP (by omega)) ?_
    refine aw_eqS (st := [.int (nI (setN (fun s => decide (G 11 (3 + s) = nI 0)) P))]) rfl ?_
    refine aw_run oX7_plan smOk 3 (pc' := 46) (L' := [some (.ref 0), some (.int (-nI 1)), some (.int (nI (setN (fun s => decide (G 11 (3 + s) = nI 0)) P))), none]) (st' := [.int (-nI 1), .int (-nI 1)]) (I' := I) (J' := J) (G' := va_up (va_up G 13 b) 14 c) rfl ?_
    refine aw_icmp_ne (oX7_plan.dec rfl) (tgt := 66) rfl (fun h46 => by first | exact absurd h46 (by assumption) | exact absurd (by assumption) h46 | (exfalso; revert h46; decide) | simp_all) (fun h46 => ?_)
    refine aw_run oX7_plan smOk 6 (pc' := 60) (L' := [some (.ref 0), some (.int (-nI 1)), some (.int (nI (setN (fun s => decide (G 11 (3 + s) = nI 0)) P))), none]) (st' := [.int (nI 0), .ref 11, .int (nI 32), .ref 13]) (I' := I) (J' := J) (G' := va_up (va_up G 13 b) 14 c) rfl ?_
    refine aw_iaN 0 smOk rfl rfl (by omega) (oX7_plan.dec rfl) ?_
    refine aw_eqS (st := [.int (G 11 0), .int (nI 32), .ref 13]) rfl ?_
    refine aw_run oX7_plan smOk 3 (pc' := 64) (L' := [some (.ref 0), some (.int (-nI 1)), some (.int (nI (setN (fun s => decide (G 11 (3 + s) = nI 0)) P))), none]) (st' := [.int (((nI 32) * (G 11 0)) + (nI (setN (fun s => decide (G 11 (3 + s) = nI 0)) P))), .ref 13]) (I' := I) (J' := J) (G' := va_up (va_up G 13 b) 14 c) rfl ?_
    refine aw_iaN (32 * t + (setN (fun s => decide (G 11 (3 + s) = nI 0)) P)) smOk rfl (addN (mulN rfl ht) rfl) (by omega) (oX7_plan.dec rfl) ?_
    refine aw_eqS (st := [.int (b (32 * t + (setN (fun s => decide (G 11 (3 + s) = nI 0)) P)))]) rfl ?_
    exact aw_iret rfl (oX7_plan.dec rfl) (⟨by rw [(htb t (by omega) hlt _ hpo).1], rfl, rfl, b, c, rfl⟩)
  · refine aw_run oX7_plan smOk 2 (pc' := 2) (L' := [some (.ref 0), some (.int (-nI 1)), none, none]) (st' := [.int (-nI 1), .int (-nI 1)]) (I' := I) (J' := J) (G' := G) rfl ?_
    refine aw_icmp_eq (oX7_plan.dec rfl) (tgt := 28) rfl (fun h2 => ?_) (fun h2 => by first | exact absurd h2 (by assumption) | exact absurd (by assumption) h2 | (exfalso; revert h2; decide) | simp_all)
    refine aw_run oX7_plan smOk 4 (pc' := 34) (L' := [some (.ref 0), some (.int (-nI 1)), none, none]) (st' := [.int (nI 0), .ref 11, .ref 0]) (I' := I) (J' := J) (G' := G) rfl ?_
    refine aw_iaN 0 smOk rfl rfl (by omega) (oX7_plan.dec rfl) ?_
    refine aw_eqS (st := [.int (nI t), .ref 0]) (by rw [show G 11 0 = nI t from ht]) ?_
    refine aw_cVP (st := []) 0 [.int (nI t)] oX7_measure k7_164 rfl rfl rfl rfl rfl rfl rfl rfl (oX7_plan.dec rfl) (m_measure hP (by omega) hW (by omega) (by omega)) (fun r35 I35 J35 G35 hq35 => ?_)
    obtain ⟨hr, hI, hJ, b, c, hG, h0, htb⟩ := hq35
    obtain rfl := hr.symm; obtain rfl := hI.symm; obtain rfl := hJ.symm; obtain rfl := hG.symm
    refine aw_eqS (st := []) rfl ?_
    refine aw_run oX7_plan smOk 2 (pc' := 40) (L' := [some (.ref 0), some (.int (-nI 1)), none, none]) (st' := [.int (nI 0), .ref 0]) (I' := I) (J' := J) (G' := va_up (va_up G 13 b) 14 c) rfl ?_
    refine aw_cV (st := []) 0 [.int (nI 0)] oX7_setIn k7_127 rfl rfl rfl rfl rfl rfl rfl rfl (oX7_plan.dec rfl) (m_setIn (I := I) (J := J) (G := va_up (va_up G 13 b) 14 c) hP (by omega)) ?_
    refine aw_eqS (st := [.int (nI (setN (fun s => decide (G 11 (3 + s) = nI 0)) P))]) rfl ?_
    refine aw_run oX7_plan smOk 3 (pc' := 46) (L' := [some (.ref 0), some (.int (-nI 1)), some (.int (nI (setN (fun s => decide (G 11 (3 + s) = nI 0)) P))), none]) (st' := [.int (-nI 1), .int (-nI 1)]) (I' := I) (J' := J) (G' := va_up (va_up G 13 b) 14 c) rfl ?_
    refine aw_icmp_ne (oX7_plan.dec rfl) (tgt := 66) rfl (fun h46 => by first | exact absurd h46 (by assumption) | exact absurd (by assumption) h46 | (exfalso; revert h46; decide) | simp_all) (fun h46 => ?_)
    refine aw_run oX7_plan smOk 6 (pc' := 60) (L' := [some (.ref 0), some (.int (-nI 1)), some (.int (nI (setN (fun s => decide (G 11 (3 + s) = nI 0)) P))), none]) (st' := [.int (nI 0), .ref 11, .int (nI 32), .ref 13]) (I' := I) (J' := J) (G' := va_up (va_up G 13 b) 14 c) rfl ?_
    refine aw_iaN 0 smOk rfl rfl (by omega) (oX7_plan.dec rfl) ?_
    refine aw_eqS (st := [.int (G 11 0), .int (nI 32), .ref 13]) rfl ?_
    refine aw_run oX7_plan smOk 3 (pc' := 64) (L' := [some (.ref 0), some (.int (-nI 1)), some (.int (nI (setN (fun s => decide (G 11 (3 + s) = nI 0)) P))), none]) (st' := [.int (((nI 32) * (G 11 0)) + (nI (setN (fun s => decide (G 11 (3 + s) = nI 0)) P))), .ref 13]) (I' := I) (J' := J) (G' := va_up (va_up G 13 b) 14 c) rfl ?_
    refine aw_iaN (32 * t + (setN (fun s => decide (G 11 (3 + s) = nI 0)) P)) smOk rfl (addN (mulN rfl ht) rfl) (by omega) (oX7_plan.dec rfl) ?_
    refine aw_eqS (st := [.int (b (32 * t + (setN (fun s => decide (G 11 (3 + s) = nI 0)) P)))]) rfl ?_
    exact aw_iret rfl (oX7_plan.dec rfl) (⟨by rw [show t = Wk by omega, h0 _ (by omega), Nat.sub_self]; rfl, rfl, rfl, b, c, rfl⟩)
set_option maxRecDepth 20000 in
theorem m_plan_ok {I : II} {J : JJ} {G : II} {P : Nat} (hP : G 5 0 = nI P) (hP5 : P ≤ 5) {Wk : Nat} (hW : G 2 0 = nI Wk) (hWk : Wk ≤ 12) {t : Nat} (ht : G 11 0 = nI t) (ht12 : t ≤ 12) (htW : t ≤ Wk) {w : Nat} (htw : t ≤ w) (hw : w < Wk) : AMet SM mX7_plan [.ref 0, .int (nI w)] I J G (fun r I' J' G' => r = some (.int (nI (chO (plV (fun m w => wor (G 11) (G 8) (G 4 w) (G 3 w) P m) (fun w => setN (fun s => decide (G 9 s ≤ nI w)) P) Wk (Wk - w) (lfP (fun w u => chO (plV (fun m w => wor (G 11) (G 8) (G 4 w) (G 3 w) P m) (fun w => setN (fun s => decide (G 9 s ≤ nI w)) P) Wk (Wk - w) u)) t (setN (fun s => decide (G 11 (3 + s) = nI 0)) P) (w - t)))))) ∧ I' = I ∧ J' = J ∧ ∃ b c, G' = va_up (va_up G 13 b) 14 c) := by
  have hp32 : 2 ^ P ≤ 32 := Nat.pow_le_pow_right (by decide) hP5
  have hpo : setN (fun s => decide (G 11 (3 + s) = nI 0)) P < 2 ^ P := setN_lt _ _
  have hrd : ∀ w, setN (fun s => decide (G 9 s ≤ nI w)) P < 32 := fun w => Nat.lt_of_lt_of_le (setN_lt _ _) hp32
  refine amet_en oX7_plan rfl rfl (L := [some (.ref 0), some (.int (nI w)), none, none]) rfl ?_
  have hCl : ∀ w u, u < 32 → (fun w u => chO (plV (fun m w => wor (G 11) (G 8) (G 4 w) (G 3 w) P m) (fun w => setN (fun s => decide (G 9 s ≤ nI w)) P) Wk (Wk - w) u)) w u < 32 := fun w u hu => chO_lt hrd _ u hu
  have loop : ∀ (b c : Nat → Int32) (htb : ∀ w, t ≤ w → w < Wk → ∀ u, u < 2 ^ P → b (32 * w + u) = valO (plV (fun m w => wor (G 11) (G 8) (G 4 w) (G 3 w) P m) (fun w => setN (fun s => decide (G 9 s ≤ nI w)) P) Wk (Wk - w) u) ∧ c (32 * w + u) = nI (chO (plV (fun m w => wor (G 11) (G 8) (G 4 w) (G 3 w) P m) (fun w => setN (fun s => decide (G 9 s ≤ nI w)) P) Wk (Wk - w) u))) (n k : Nat) (x y : Int32), (t + k + n = w) → (x = nI (t + k)) → (y = nI (lfP (fun w u => chO (plV (fun m w => wor (G 11) (G 8) (G 4 w) (G 3 w) P m) (fun w => setN (fun s => decide (G 9 s ≤ nI w)) P) Wk (Wk - w) u)) t (setN (fun s => decide (G 11 (3 + s) = nI 0)) P) k)) → AW SM mX7_plan 73 [some (.ref 0), some (.int (nI w)), some (.int y), some (.int x)] [] I J (va_up (va_up G 13 b) 14 c) (fun r I' J' G' => r = some (.int (nI (chO (plV (fun m w => wor (G 11) (G 8) (G 4 w) (G 3 w) P m) (fun w => setN (fun s => decide (G 9 s ≤ nI w)) P) Wk (Wk - w) (lfP (fun w u => chO (plV (fun m w => wor (G 11) (G 8) (G 4 w) (G 3 w) P m) (fun w => setN (fun s => decide (G 9 s ≤ nI w)) P) Wk (Wk - w) u)) t (setN (fun s => decide (G 11 (3 + s) = nI 0)) P) (w - t)))))) ∧ I' = I ∧ J' = J ∧ ∃ b c, G' = va_up (va_up G 13 b) 14 c) := by
    intro b c htb n
    induction n with
    | zero =>
      intro k x y hkn hx hy
      have hlf := lfP_ok (C := fun w u => chO (plV (fun m w => wor (G 11) (G 8) (G 4 w) (G 3 w) P m) (fun w => setN (fun s => decide (G 9 s ≤ nI w)) P) Wk (Wk - w) u)) (t := t) (Nat.lt_of_lt_of_le hpo hp32) hCl k
      have hl2 := Nat.lt_of_le_of_lt (an_le _ hlf.1 _ (Nat.lt_of_lt_of_le hpo hp32) hlf.2) hpo
      refine aw_run oX7_plan smOk 2 (pc' := 75) (L' := [some (.ref 0), some (.int (nI w)), some (.int y), some (.int x)]) (st' := [.int (nI w), .int x]) (I' := I) (J' := J) (G' := va_up (va_up G 13 b) 14 c) rfl ?_
      refine aw_geN hx rfl (by omega) (by omega) (oX7_plan.dec rfl) (tgt := 100) rfl (fun h75 => ?_) (fun h75 => absurd h75 (by omega))
      refine aw_run oX7_plan smOk 7 (pc' := 110) (L' := [some (.ref 0), some (.int (nI w)), some (.int y), some (.int x)]) (st' := [.int (((nI 32) * (nI w)) + y), .ref 14]) (I' := I) (J' := J) (G' := va_up (va_up G 13 b) 14 c) rfl ?_
      refine aw_iaN (32 * w + (lfP (fun w u => chO (plV (fun m w => wor (G 11) (G 8) (G 4 w) (G 3 w) P m) (fun w => setN (fun s => decide (G 9 s ≤ nI w)) P) Wk (Wk - w) u)) t (setN (fun s => decide (G 11 (3 + s) = nI 0)) P) k)) smOk rfl (addN (mulN rfl rfl) hy) (by omega) (oX7_plan.dec rfl) ?_
      refine aw_eqS (st := [.int (c (32 * w + (lfP (fun w u => chO (plV (fun m w => wor (G 11) (G 8) (G 4 w) (G 3 w) P m) (fun w => setN (fun s => decide (G 9 s ≤ nI w)) P) Wk (Wk - w) u)) t (setN (fun s => decide (G 11 (3 + s) = nI 0)) P) k)))]) rfl ?_
      exact aw_iret rfl (oX7_plan.dec rfl) (⟨by rw [(htb w (by omega) (by omega) _ hl2).2, show k = w - t by omega], rfl, rfl, b, c, rfl⟩)
    | succ n ih =>
      intro k x y hkn hx hy
      have hlf := lfP_ok (C := fun w u => chO (plV (fun m w => wor (G 11) (G 8) (G 4 w) (G 3 w) P m) (fun w => setN (fun s => decide (G 9 s ≤ nI w)) P) Wk (Wk - w) u)) (t := t) (Nat.lt_of_lt_of_le hpo hp32) hCl k
      have hl2 := Nat.lt_of_le_of_lt (an_le _ hlf.1 _ (Nat.lt_of_lt_of_le hpo hp32) hlf.2) hpo
      have hck : c (32 * (t + k) + (lfP (fun w u => chO (plV (fun m w => wor (G 11) (G 8) (G 4 w) (G 3 w) P m) (fun w => setN (fun s => decide (G 9 s ≤ nI w)) P) Wk (Wk - w) u)) t (setN (fun s => decide (G 11 (3 + s) = nI 0)) P) k)) = nI (chO (plV (fun m w => wor (G 11) (G 8) (G 4 w) (G 3 w) P m) (fun w => setN (fun s => decide (G 9 s ≤ nI w)) P) Wk (Wk - (t + k)) (lfP (fun w u => chO (plV (fun m w => wor (G 11) (G 8) (G 4 w) (G 3 w) P m) (fun w => setN (fun s => decide (G 9 s ≤ nI w)) P) Wk (Wk - w) u)) t (setN (fun s => decide (G 11 (3 + s) = nI 0)) P) k))) := (htb (t + k) (by omega) (by omega) _ hl2).2
      have hcl : chO (plV (fun m w => wor (G 11) (G 8) (G 4 w) (G 3 w) P m) (fun w => setN (fun s => decide (G 9 s ≤ nI w)) P) Wk (Wk - (t + k)) (lfP (fun w u => chO (plV (fun m w => wor (G 11) (G 8) (G 4 w) (G 3 w) P m) (fun w => setN (fun s => decide (G 9 s ≤ nI w)) P) Wk (Wk - w) u)) t (setN (fun s => decide (G 11 (3 + s) = nI 0)) P) k)) < 32 := chO_lt hrd _ _ hlf.1
      refine aw_run oX7_plan smOk 2 (pc' := 75) (L' := [some (.ref 0), some (.int (nI w)), some (.int y), some (.int x)]) (st' := [.int (nI w), .int x]) (I' := I) (J' := J) (G' := va_up (va_up G 13 b) 14 c) rfl ?_
      refine aw_geN hx rfl (by omega) (by omega) (oX7_plan.dec rfl) (tgt := 100) rfl (fun h75 => absurd h75 (by omega)) (fun h75 => ?_)
      refine aw_run oX7_plan smOk 8 (pc' := 89) (L' := [some (.ref 0), some (.int (nI w)), some (.int y), some (.int x)]) (st' := [.int (((nI 32) * x) + y), .ref 14, .int y]) (I' := I) (J' := J) (G' := va_up (va_up G 13 b) 14 c) rfl ?_
      refine aw_iaN (32 * (t + k) + (lfP (fun w u => chO (plV (fun m w => wor (G 11) (G 8) (G 4 w) (G 3 w) P m) (fun w => setN (fun s => decide (G 9 s ≤ nI w)) P) Wk (Wk - w) u)) t (setN (fun s => decide (G 11 (3 + s) = nI 0)) P) k)) smOk rfl (addN (mulN rfl hx) hy) (by omega) (oX7_plan.dec rfl) ?_
      refine aw_eqS (st := [.int (c (32 * (t + k) + (lfP (fun w u => chO (plV (fun m w => wor (G 11) (G 8) (G 4 w) (G 3 w) P m) (fun w => setN (fun s => decide (G 9 s ≤ nI w)) P) Wk (Wk - w) u)) t (setN (fun s => decide (G 11 (3 + s) = nI 0)) P) k))), .int y]) rfl ?_
      refine aw_run oX7_plan smOk 6 (pc' := 73) (L' := [some (.ref 0), some (.int (nI w)), some (.int (y &&& ((c (32 * (t + k) + (lfP (fun w u => chO (plV (fun m w => wor (G 11) (G 8) (G 4 w) (G 3 w) P m) (fun w => setN (fun s => decide (G 9 s ≤ nI w)) P) Wk (Wk - w) u)) t (setN (fun s => decide (G 11 (3 + s) = nI 0)) P) k))) ^^^ (-nI 1)))), some (.int (x + (nI 1)))]) (st' := []) (I' := I) (J' := J) (G' := va_up (va_up G 13 b) 14 c) rfl ?_
      exact ih (k + 1) _ _ (by omega) (show _ = nI (t + k + 1) from addN hx rfl) (anNI hy hck (by omega) (by omega))
  refine aw_run oX7_plan smOk 2 (pc' := 2) (L' := [some (.ref 0), some (.int (nI w)), none, none]) (st' := [.int (-nI 1), .int (nI w)]) (I' := I) (J' := J) (G' := G) rfl ?_
  refine aw_icmp_eq (oX7_plan.dec rfl) (tgt := 28) rfl (fun h2 => absurd h2 (nI_nm1 (by omega))) (fun h2 => ?_)
  refine aw_run oX7_plan smOk 4 (pc' := 11) (L' := [some (.ref 0), some (.int (nI w)), none, none]) (st' := [.int (nI 0), .ref 11, .int (nI w)]) (I' := I) (J' := J) (G' := G) rfl ?_
  refine aw_iaN 0 smOk rfl rfl (by omega) (oX7_plan.dec rfl) ?_
  refine aw_run oX7_plan smOk 3 (pc' := 17) (L' := [some (.ref 0), some (.int (nI w)), none, none]) (st' := [.int (nI 0), .ref 2, .int (G 11 0), .int (nI w)]) (I' := I) (J' := J) (G' := G) rfl ?_
  refine aw_iaN 0 smOk rfl rfl (by omega) (oX7_plan.dec rfl) ?_
  refine aw_run oX7_plan smOk 2 (pc' := 20) (L' := [some (.ref 0), some (.int (nI w)), none, none]) (st' := [.int ((G 2 0) - (nI 1)), .int (G 11 0), .int (nI w)]) (I' := I) (J' := J) (G' := G) rfl ?_
  refine aw_eqS (st := [.int (nI (Wk - 1)), .int (nI t), .int (nI w)]) (by rw [show (G 2 0) - (nI 1) = nI (Wk - 1) from subN hW rfl (by omega), show G 11 0 = nI t from ht]) ?_
  refine aw_cS (st := []) [.int (nI w), .int (nI t), .int (nI (Wk - 1))] oX7_in k7_60 rfl rfl rfl rfl rfl (oX7_plan.dec rfl) (m_inN (by omega) (by omega) (by omega)) ?_
  refine aw_eqS (st := [.int (b1 (decide (t ≤ w ∧ w ≤ Wk - 1)))]) rfl ?_
  refine aw_0neD (oX7_plan.dec rfl) (tgt := 28) rfl (fun h23 => ?_) (fun h23 => absurd h23 (by omega))
  refine aw_run oX7_plan smOk 4 (pc' := 34) (L' := [some (.ref 0), some (.int (nI w)), none, none]) (st' := [.int (nI 0), .ref 11, .ref 0]) (I' := I) (J' := J) (G' := G) rfl ?_
  refine aw_iaN 0 smOk rfl rfl (by omega) (oX7_plan.dec rfl) ?_
  refine aw_eqS (st := [.int (nI t), .ref 0]) (by rw [show G 11 0 = nI t from ht]) ?_
  refine aw_cVP (st := []) 0 [.int (nI t)] oX7_measure k7_164 rfl rfl rfl rfl rfl rfl rfl rfl (oX7_plan.dec rfl) (m_measure hP (by omega) hW (by omega) (by omega)) (fun r35 I35 J35 G35 hq35 => ?_)
  obtain ⟨hr, hI, hJ, b, c, hG, h0, htb⟩ := hq35
  obtain rfl := hr.symm; obtain rfl := hI.symm; obtain rfl := hJ.symm; obtain rfl := hG.symm
  refine aw_eqS (st := []) rfl ?_
  refine aw_run oX7_plan smOk 2 (pc' := 40) (L' := [some (.ref 0), some (.int (nI w)), none, none]) (st' := [.int (nI 0), .ref 0]) (I' := I) (J' := J) (G' := va_up (va_up G 13 b) 14 c) rfl ?_
  refine aw_cV (st := []) 0 [.int (nI 0)] oX7_setIn k7_127 rfl rfl rfl rfl rfl rfl rfl rfl (oX7_plan.dec rfl) (m_setIn (I := I) (J := J) (G := va_up (va_up G 13 b) 14 c) hP (by omega)) ?_
  refine aw_eqS (st := [.int (nI (setN (fun s => decide (G 11 (3 + s) = nI 0)) P))]) rfl ?_
  refine aw_run oX7_plan smOk 3 (pc' := 46) (L' := [some (.ref 0), some (.int (nI w)), some (.int (nI (setN (fun s => decide (G 11 (3 + s) = nI 0)) P))), none]) (st' := [.int (-nI 1), .int (nI w)]) (I' := I) (J' := J) (G' := va_up (va_up G 13 b) 14 c) rfl ?_
  refine aw_icmp_ne (oX7_plan.dec rfl) (tgt := 66) rfl (fun h46 => ?_) (fun h46 => absurd h46 (nI_nm1 (by omega)))
  refine aw_run oX7_plan smOk 3 (pc' := 71) (L' := [some (.ref 0), some (.int (nI w)), some (.int (nI (setN (fun s => decide (G 11 (3 + s) = nI 0)) P))), none]) (st' := [.int (nI 0), .ref 11]) (I' := I) (J' := J) (G' := va_up (va_up G 13 b) 14 c) rfl ?_
  refine aw_iaN 0 smOk rfl rfl (by omega) (oX7_plan.dec rfl) ?_
  refine aw_eqS (st := [.int (G 11 0)]) rfl ?_
  refine aw_run oX7_plan smOk 1 (pc' := 73) (L' := [some (.ref 0), some (.int (nI w)), some (.int (nI (setN (fun s => decide (G 11 (3 + s) = nI 0)) P))), some (.int (G 11 0))]) (st' := []) (I' := I) (J' := J) (G' := va_up (va_up G 13 b) 14 c) rfl ?_
  exact loop b c htb (w - t) 0 _ _ (by omega) ht rfl
set_option maxRecDepth 20000 in
theorem m_plan_early {I : II} {J : JJ} {G : II} {Wk : Nat} (hW : G 2 0 = nI Wk) (hWk : Wk ≤ 12) {t : Nat} (ht : G 11 0 = nI t) (ht12 : t ≤ 12) (htW : t ≤ Wk) {w : Nat} (htw : w < t) (hw : w < Wk) : AMet SM mX7_plan [.ref 0, .int (nI w)] I J G (PE (some (.int (-nI 1))) I J G) := by
  refine amet_en oX7_plan rfl rfl (L := [some (.ref 0), some (.int (nI w)), none, none]) rfl ?_
  refine aw_run oX7_plan smOk 2 (pc' := 2) (L' := [some (.ref 0), some (.int (nI w)), none, none]) (st' := [.int (-nI 1), .int (nI w)]) (I' := I) (J' := J) (G' := G) rfl ?_
  refine aw_icmp_eq (oX7_plan.dec rfl) (tgt := 28) rfl (fun h2 => absurd h2 (nI_nm1 (by omega))) (fun h2 => ?_)
  refine aw_run oX7_plan smOk 4 (pc' := 11) (L' := [some (.ref 0), some (.int (nI w)), none, none]) (st' := [.int (nI 0), .ref 11, .int (nI w)]) (I' := I) (J' := J) (G' := G) rfl ?_
  refine aw_iaN 0 smOk rfl rfl (by omega) (oX7_plan.dec rfl) ?_
  refine aw_run oX7_plan smOk 3 (pc' := 17) (L' := [some (.ref 0), some (.int (nI w)), none, none]) (st' := [.int (nI 0), .ref 2, .int (G 11 0), .int (nI w)]) (I' := I) (J' := J) (G' := G) rfl ?_
  refine aw_iaN 0 smOk rfl rfl (by omega) (oX7_plan.dec rfl) ?_
  refine aw_run oX7_plan smOk 2 (pc' := 20) (L' := [some (.ref 0), some (.int (nI w)), none, none]) (st' := [.int ((G 2 0) - (nI 1)), .int (G 11 0), .int (nI w)]) (I' := I) (J' := J) (G' := G) rfl ?_
  refine aw_eqS (st := [.int (nI (Wk - 1)), .int (nI t), .int (nI w)]) (by rw [show (G 2 0) - (nI 1) = nI (Wk - 1) from subN hW rfl (by omega), show G 11 0 = nI t from ht]) ?_
  refine aw_cS (st := []) [.int (nI w), .int (nI t), .int (nI (Wk - 1))] oX7_in k7_60 rfl rfl rfl rfl rfl (oX7_plan.dec rfl) (m_inN (by omega) (by omega) (by omega)) ?_
  refine aw_eqS (st := [.int (b1 (decide (t ≤ w ∧ w ≤ Wk - 1)))]) rfl ?_
  refine aw_0neD (oX7_plan.dec rfl) (tgt := 28) rfl (fun h23 => absurd h23 (by omega)) (fun h23 => ?_)
  refine aw_run oX7_plan smOk 1 (pc' := 27) (L' := [some (.ref 0), some (.int (nI w)), none, none]) (st' := [.int (-nI 1)]) (I' := I) (J' := J) (G' := G) rfl ?_
  exact aw_iret rfl (oX7_plan.dec rfl) pe_rfl
set_option maxRecDepth 20000 in
theorem m_plan_bad {I : II} {J : JJ} {G : II} {Wk : Nat} (hW : G 2 0 = nI Wk) (hWk : Wk ≤ 12) {t : Nat} (ht : G 11 0 = nI t) (ht12 : t ≤ 12) (htW : t ≤ Wk) {x : Int32} (hx : notIn x Wk) (hx1 : ¬ x = -nI 1) : AMet SM mX7_plan [.ref 0, .int x] I J G (PE (some (.int (-nI 1))) I J G) := by
  refine amet_en oX7_plan rfl rfl (L := [some (.ref 0), some (.int x), none, none]) rfl ?_
  refine aw_run oX7_plan smOk 2 (pc' := 2) (L' := [some (.ref 0), some (.int x), none, none]) (st' := [.int (-nI 1), .int x]) (I' := I) (J' := J) (G' := G) rfl ?_
  refine aw_icmp_eq (oX7_plan.dec rfl) (tgt := 28) rfl (fun h2 => by first | exact absurd h2 (by assumption) | exact absurd (by assumption) h2 | (exfalso; revert h2; decide) | simp_all) (fun h2 => ?_)
  refine aw_run oX7_plan smOk 4 (pc' := 11) (L' := [some (.ref 0), some (.int x), none, none]) (st' := [.int (nI 0), .ref 11, .int x]) (I' := I) (J' := J) (G' := G) rfl ?_
  refine aw_iaN 0 smOk rfl rfl (by omega) (oX7_plan.dec rfl) ?_
  refine aw_run oX7_plan smOk 3 (pc' := 17) (L' := [some (.ref 0), some (.int x), none, none]) (st' := [.int (nI 0), .ref 2, .int (G 11 0), .int x]) (I' := I) (J' := J) (G' := G) rfl ?_
  refine aw_iaN 0 smOk rfl rfl (by omega) (oX7_plan.dec rfl) ?_
  refine aw_run oX7_plan smOk 2 (pc' := 20) (L' := [some (.ref 0), some (.int x), none, none]) (st' := [.int ((G 2 0) - (nI 1)), .int (G 11 0), .int x]) (I' := I) (J' := J) (G' := G) rfl ?_
  refine aw_eqS (st := [.int ((G 2 0) - (nI 1)), .int (nI t), .int x]) (by rw [show G 11 0 = nI t from ht]) ?_
  refine aw_cS (st := []) [.int x, .int (nI t), .int ((G 2 0) - (nI 1))] oX7_in k7_60 rfl rfl rfl rfl rfl (oX7_plan.dec rfl) (m_inF (by rw [hW]; exact fun h => notIn_inW hx (by omega) ⟨Int32.le_trans (nI_pos' (n := t) (by omega)) h.1, h.2⟩)) ?_
  refine aw_eqS (st := [.int (nI 0)]) rfl ?_
  refine aw_0neN rfl (by omega) (oX7_plan.dec rfl) (tgt := 28) rfl (fun h23 => absurd h23 (by omega)) (fun h23 => ?_)
  refine aw_run oX7_plan smOk 1 (pc' := 27) (L' := [some (.ref 0), some (.int x), none, none]) (st' := [.int (-nI 1)]) (I' := I) (J' := J) (G' := G) rfl ?_
  exact aw_iret rfl (oX7_plan.dec rfl) pe_rfl
set_option maxRecDepth 20000 in
theorem m_late {I : II} {J : JJ} {G : II} {P : Nat} (hP : G 5 0 = nI P) (hP5 : P ≤ 5) {Wk : Nat} (hW : G 2 0 = nI Wk) (hWk : Wk ≤ 12) {t : Nat} (ht : G 11 0 = nI t) (ht12 : t ≤ 12) (htW : t ≤ Wk) : AMet SM mX7_late [.ref 0] I J G (fun r I' J' G' => r = some (.int (valO (plV (fun m w => wor (G 11) (G 8) (G 4 w) (G 3 w) P m) (fun w => setN (fun s => decide (G 9 s ≤ nI w)) P) Wk (Wk - (t + 1)) (setN (fun s => decide (G 11 (3 + s) = nI 0)) P)))) ∧ I' = I ∧ J' = J ∧ ∃ b c, G' = va_up (va_up G 13 b) 14 c) := by
  have hp32 : 2 ^ P ≤ 32 := Nat.pow_le_pow_right (by decide) hP5
  have hpo : setN (fun s => decide (G 11 (3 + s) = nI 0)) P < 2 ^ P := setN_lt _ _
  have hrd : ∀ w, setN (fun s => decide (G 9 s ≤ nI w)) P < 32 := fun w => Nat.lt_of_lt_of_le (setN_lt _ _) hp32
  refine amet_en oX7_late rfl rfl (L := [some (.ref 0), none]) rfl ?_
  by_cases hlt : t + 1 < Wk
  · refine aw_run oX7_late smOk 3 (pc' := 5) (L' := [some (.ref 0), none]) (st' := [.int (nI 0), .ref 11]) (I' := I) (J' := J) (G' := G) rfl ?_
    refine aw_iaN 0 smOk rfl rfl (by omega) (oX7_late.dec rfl) ?_
    refine aw_run oX7_late smOk 7 (pc' := 15) (L' := [some (.ref 0), some (.int ((G 11 0) + (nI 1)))]) (st' := [.int (nI 0), .ref 2, .int ((G 11 0) + (nI 1))]) (I' := I) (J' := J) (G' := G) rfl ?_
    refine aw_iaN 0 smOk rfl rfl (by omega) (oX7_late.dec rfl) ?_
    refine aw_ltN (addN ht rfl) hW (by omega) (by omega) (oX7_late.dec rfl) (tgt := 21) rfl (fun h16 => ?_) (fun h16 => absurd h16 (by omega))
    refine aw_run oX7_late smOk 2 (pc' := 23) (L' := [some (.ref 0), some (.int ((G 11 0) + (nI 1)))]) (st' := [.int ((G 11 0) + (nI 1)), .ref 0]) (I' := I) (J' := J) (G' := G) rfl ?_
    refine aw_eqS (st := [.int (nI (t + 1)), .ref 0]) (by rw [show (G 11 0) + (nI 1) = nI (t + 1) from addN ht rfl]) ?_
    refine aw_cVP (st := []) 0 [.int (nI (t + 1))] oX7_measure k7_164 rfl rfl rfl rfl rfl rfl rfl rfl (oX7_late.dec rfl) (m_measure hP (by omega) hW (by omega) (by omega)) (fun r23 I23 J23 G23 hq23 => ?_)
    obtain ⟨hr, hI, hJ, b, c, hG, h0, htb⟩ := hq23
    obtain rfl := hr.symm; obtain rfl := hI.symm; obtain rfl := hJ.symm; obtain rfl := hG.symm
    refine aw_eqS (st := []) rfl ?_
    refine aw_run oX7_late smOk 7 (pc' := 36) (L' := [some (.ref 0), some (.int ((G 11 0) + (nI 1)))]) (st' := [.int (nI 0), .ref 0, .int ((nI 32) * ((G 11 0) + (nI 1))), .ref 13]) (I' := I) (J' := J) (G' := va_up (va_up G 13 b) 14 c) rfl ?_
    refine aw_cV (st := [.int ((nI 32) * ((G 11 0) + (nI 1))), .ref 13]) 0 [.int (nI 0)] oX7_setIn k7_127 rfl rfl rfl rfl rfl rfl rfl rfl (oX7_late.dec rfl) (m_setIn (I := I) (J := J) (G := va_up (va_up G 13 b) 14 c) hP (by omega)) ?_
    refine aw_eqS (st := [.int (nI (setN (fun s => decide (G 11 (3 + s) = nI 0)) P)), .int ((nI 32) * ((G 11 0) + (nI 1))), .ref 13]) rfl ?_
    refine aw_run oX7_late smOk 1 (pc' := 40) (L' := [some (.ref 0), some (.int ((G 11 0) + (nI 1)))]) (st' := [.int (((nI 32) * ((G 11 0) + (nI 1))) + (nI (setN (fun s => decide (G 11 (3 + s) = nI 0)) P))), .ref 13]) (I' := I) (J' := J) (G' := va_up (va_up G 13 b) 14 c) rfl ?_
    refine aw_iaN (32 * (t + 1) + (setN (fun s => decide (G 11 (3 + s) = nI 0)) P)) smOk rfl (addN (mulN rfl (addN ht rfl)) rfl) (by omega) (oX7_late.dec rfl) ?_
    refine aw_eqS (st := [.int (b (32 * (t + 1) + (setN (fun s => decide (G 11 (3 + s) = nI 0)) P)))]) rfl ?_
    exact aw_iret rfl (oX7_late.dec rfl) (⟨by rw [(htb (t + 1) (by omega) hlt _ hpo).1], rfl, rfl, b, c, rfl⟩)
  · refine aw_run oX7_late smOk 3 (pc' := 5) (L' := [some (.ref 0), none]) (st' := [.int (nI 0), .ref 11]) (I' := I) (J' := J) (G' := G) rfl ?_
    refine aw_iaN 0 smOk rfl rfl (by omega) (oX7_late.dec rfl) ?_
    refine aw_run oX7_late smOk 7 (pc' := 15) (L' := [some (.ref 0), some (.int ((G 11 0) + (nI 1)))]) (st' := [.int (nI 0), .ref 2, .int ((G 11 0) + (nI 1))]) (I' := I) (J' := J) (G' := G) rfl ?_
    refine aw_iaN 0 smOk rfl rfl (by omega) (oX7_late.dec rfl) ?_
    refine aw_ltN (addN ht rfl) hW (by omega) (by omega) (oX7_late.dec rfl) (tgt := 21) rfl (fun h16 => absurd h16 (by omega)) (fun h16 => ?_)
    refine aw_run oX7_late smOk 1 (pc' := 20) (L' := [some (.ref 0), some (.int ((G 11 0) + (nI 1)))]) (st' := [.int (nI 0)]) (I' := I) (J' := J) (G' := G) rfl ?_
    exact aw_iret rfl (oX7_late.dec rfl) (⟨by rw [show Wk - (t + 1) = 0 by omega]; rfl, rfl, rfl, G 13, G 14, by rw [upG_id G 13, upG_id G 14]⟩)
