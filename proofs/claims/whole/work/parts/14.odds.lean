set_option maxRecDepth 20000 in
theorem c_reckonOdds {I : II} {J : JJ} {G : II} {P : Nat} (hP : I 2 7 = nI P) (hP5 : P ≤ 5) {σ w k τ : Nat} (hσ : σ < 32) (hw : w < 12) (hk : k ≤ 5) (hτ : G 12 w = nI τ) (hτ10 : τ ≤ 10) (hsil : ∀ s, s < P → nI 0 ≤ sil (G 24) s) : AMet SX mX0_reckonOdds [.ref 7, .int (nI σ), .int (nI w), .int (nI k)] I J G (fun r I' J' G' => r = none ∧ I' = up2 (up2 I 7 3 (nI (frU (oFr σ (tak (G 24) (G 16) (G 13 w) P σ) P τ k)))) 7 4 (nI (frL (oFr σ (tak (G 24) (G 16) (G 13 w) P σ) P τ k))) ∧ J' = J ∧ ∃ f, G' = va_up G 30 f) := by
  refine amet_en oX0_reckonOdds rfl rfl (L := [some (.ref 7), some (.int (nI σ)), some (.int (nI w)), some (.int (nI k)), none, none, none, none, none]) rfl ?_
  have hc5 : cntB (oq σ (tak (G 24) (G 16) (G 13 w) P σ)) P ≤ 5 := Nat.le_trans (cntB_le _ _) hP5
  have hp10 : 10 ^ (cntB (oq σ (tak (G 24) (G 16) (G 13 w) P σ)) P) ≤ 100000 := Nat.pow_le_pow_right (n := 10) (by decide) hc5
  have hp1 : 0 < 10 ^ (cntB (oq σ (tak (G 24) (G 16) (G 13 w) P σ)) P) := Nat.pow_pos (by decide)
  have fin : ∀ (cs : Int32) (f : Nat → Int32), (cs = nI (10 ^ cntB (oq σ (tak (G 24) (G 16) (G 13 w) P σ)) P)) → (∀ j, j < 6 → f j = nI (itW τ (cntB (oq σ (tak (G 24) (G 16) (G 13 w) P σ)) P) j)) → ∀ (n m : Nat) (x g : Int32), (k + m + n = 6) → (x = nI (k + m)) → (g = nI (gs (itW τ (cntB (oq σ (tak (G 24) (G 16) (G 13 w) P σ)) P)) k m)) → AW SX mX0_reckonOdds 82 [some (.ref 7), some (.int (nI σ)), some (.int (nI w)), some (.int (nI k)), none, none, some (.int cs), some (.int g), some (.int x)] [] I J (va_up G 30 f) (fun r I' J' G' => r = none ∧ I' = up2 (up2 I 7 3 (nI (frU (oFr σ (tak (G 24) (G 16) (G 13 w) P σ) P τ k)))) 7 4 (nI (frL (oFr σ (tak (G 24) (G 16) (G 13 w) P σ) P τ k))) ∧ J' = J ∧ ∃ f, G' = va_up G 30 f) := by
    intro cs f hcs hf n
    induction n with
    | zero =>
      intro m x g hmn hx hg
      have hgl := gs_le (τ := τ) (k := k) (m := m) (show cntB (oq σ (tak (G 24) (G 16) (G 13 w) P σ)) P < 6 by omega) (by omega) (by omega)
      refine aw_run oX0_reckonOdds sxOk 2 (pc' := 85) (L' := [some (.ref 7), some (.int (nI σ)), some (.int (nI w)), some (.int (nI k)), none, none, some (.int cs), some (.int g), some (.int x)]) (st' := [.int (nI 5), .int x]) (I' := I) (J' := J) (G' := va_up G 30 f) rfl ?_
      refine aw_gtN hx rfl (by omega) (by omega) (oX0_reckonOdds.dec rfl) (tgt := 106) rfl (fun h85 => ?_) (fun h85 => absurd h85 (by omega))
      refine aw_run oX0_reckonOdds sxOk 3 (pc' := 111) (L' := [some (.ref 7), some (.int (nI σ)), some (.int (nI w)), some (.int (nI k)), none, none, some (.int cs), some (.int g), some (.int x)]) (st' := [.int cs, .int g, .ref 7]) (I' := I) (J' := J) (G' := va_up G 30 f) rfl ?_
      refine aw_eqS (st := [.int (nI (10 ^ cntB (oq σ (tak (G 24) (G 16) (G 13 w) P σ)) P)), .int (nI (gs (itW τ (cntB (oq σ (tak (G 24) (G 16) (G 13 w) P σ)) P)) k m)), .ref 7]) (by rw [show g = nI (gs (itW τ (cntB (oq σ (tak (G 24) (G 16) (G 13 w) P σ)) P)) k m) from hg, show cs = nI (10 ^ cntB (oq σ (tak (G 24) (G 16) (G 13 w) P σ)) P) from hcs]) ?_
      refine aw_cV (st := []) 7 [.int (nI (gs (itW τ (cntB (oq σ (tak (G 24) (G 16) (G 13 w) P σ)) P)) k m)), .int (nI (10 ^ cntB (oq σ (tak (G 24) (G 16) (G 13 w) P σ)) P))] oX0_setFraction k0_79 rfl rfl rfl rfl rfl rfl rfl rfl (oX0_reckonOdds.dec rfl) (c_setFraction (by omega) (by omega) (by omega)) ?_
      refine aw_eqS (st := []) rfl ?_
      exact aw_vret rfl (oX0_reckonOdds.dec rfl) (⟨rfl, by rw [show m = 6 - k by omega]; rfl, rfl, f, rfl⟩)
    | succ n ih =>
      intro m x g hmn hx hg
      refine aw_run oX0_reckonOdds sxOk 2 (pc' := 85) (L' := [some (.ref 7), some (.int (nI σ)), some (.int (nI w)), some (.int (nI k)), none, none, some (.int cs), some (.int g), some (.int x)]) (st' := [.int (nI 5), .int x]) (I' := I) (J' := J) (G' := va_up G 30 f) rfl ?_
      refine aw_gtN hx rfl (by omega) (by omega) (oX0_reckonOdds.dec rfl) (tgt := 106) rfl (fun h85 => absurd h85 (by omega)) (fun h85 => ?_)
      refine aw_run oX0_reckonOdds sxOk 4 (pc' := 96) (L' := [some (.ref 7), some (.int (nI σ)), some (.int (nI w)), some (.int (nI k)), none, none, some (.int cs), some (.int g), some (.int x)]) (st' := [.int x, .ref 30, .int g]) (I' := I) (J' := J) (G' := va_up G 30 f) rfl ?_
      refine aw_iaN (k + m) sxOk rfl hx (by omega) (oX0_reckonOdds.dec rfl) ?_
      refine aw_eqS (st := [.int (f (k + m)), .int g]) rfl ?_
      refine aw_run oX0_reckonOdds sxOk 4 (pc' := 82) (L' := [some (.ref 7), some (.int (nI σ)), some (.int (nI w)), some (.int (nI k)), none, none, some (.int cs), some (.int (g + (f (k + m)))), some (.int (x + (nI 1)))]) (st' := []) (I' := I) (J' := J) (G' := va_up G 30 f) rfl ?_
      exact ih (m + 1) _ _ (by omega) (show _ = nI (k + m + 1) from addN hx rfl) (addN hg (hf (k + m) (by omega)))
  have loop : ∀ (n s : Nat) (x : Int32) (cs : Int32) (f : Nat → Int32), (s + n = P) → (x = nI s) → (cs = nI (10 ^ cntB (oq σ (tak (G 24) (G 16) (G 13 w) P σ)) s)) → (∀ j, j < 6 → f j = nI (itW τ (cntB (oq σ (tak (G 24) (G 16) (G 13 w) P σ)) s) j)) → AW SX mX0_reckonOdds 29 [some (.ref 7), some (.int (nI σ)), some (.int (nI w)), some (.int (nI k)), some (.int (G 12 w)), some (.int (encO (tak (G 24) (G 16) (G 13 w) P σ))), some (.int cs), some (.int x), none] [] I J (va_up G 30 f) (fun r I' J' G' => r = none ∧ I' = up2 (up2 I 7 3 (nI (frU (oFr σ (tak (G 24) (G 16) (G 13 w) P σ) P τ k)))) 7 4 (nI (frL (oFr σ (tak (G 24) (G 16) (G 13 w) P σ) P τ k))) ∧ J' = J ∧ ∃ f, G' = va_up G 30 f) := by
    intro n
    induction n with
    | zero =>
      intro s x cs f hsn hx hcs hf
      refine aw_run oX0_reckonOdds sxOk 4 (pc' := 38) (L' := [some (.ref 7), some (.int (nI σ)), some (.int (nI w)), some (.int (nI k)), some (.int (G 12 w)), some (.int (encO (tak (G 24) (G 16) (G 13 w) P σ))), some (.int cs), some (.int x), none]) (st' := [.int (I 2 7), .int x]) (I' := I) (J' := J) (G' := va_up G 30 f) rfl ?_
      refine aw_geN hx hP (by omega) (by omega) (oX0_reckonOdds.dec rfl) (tgt := 76) rfl (fun h38 => ?_) (fun h38 => absurd h38 (by omega))
      refine aw_run oX0_reckonOdds sxOk 4 (pc' := 82) (L' := [some (.ref 7), some (.int (nI σ)), some (.int (nI w)), some (.int (nI k)), some (.int (G 12 w)), some (.int (encO (tak (G 24) (G 16) (G 13 w) P σ))), some (.int cs), some (.int (nI 0)), some (.int (nI k))]) (st' := []) (I' := I) (J' := J) (G' := va_up G 30 f) rfl ?_
      refine aw_forget1 4 (L' := [some (.ref 7), some (.int (nI σ)), some (.int (nI w)), some (.int (nI k)), none, some (.int (encO (tak (G 24) (G 16) (G 13 w) P σ))), some (.int cs), some (.int (nI 0)), some (.int (nI k))]) rfl ?_
      refine aw_forget1 5 (L' := [some (.ref 7), some (.int (nI σ)), some (.int (nI w)), some (.int (nI k)), none, none, some (.int cs), some (.int (nI 0)), some (.int (nI k))]) rfl ?_
      obtain rfl : s = P := by omega
      exact fin _ _ hcs hf (6 - k) 0 _ _ (by omega) rfl rfl
    | succ n ih =>
      intro s x cs f hsn hx hcs hf
      refine aw_run oX0_reckonOdds sxOk 4 (pc' := 38) (L' := [some (.ref 7), some (.int (nI σ)), some (.int (nI w)), some (.int (nI k)), some (.int (G 12 w)), some (.int (encO (tak (G 24) (G 16) (G 13 w) P σ))), some (.int cs), some (.int x), none]) (st' := [.int (I 2 7), .int x]) (I' := I) (J' := J) (G' := va_up G 30 f) rfl ?_
      refine aw_geN hx hP (by omega) (by omega) (oX0_reckonOdds.dec rfl) (tgt := 76) rfl (fun h38 => absurd h38 (by omega)) (fun h38 => ?_)
      refine aw_run oX0_reckonOdds sxOk 2 (pc' := 44) (L' := [some (.ref 7), some (.int (nI σ)), some (.int (nI w)), some (.int (nI k)), some (.int (G 12 w)), some (.int (encO (tak (G 24) (G 16) (G 13 w) P σ))), some (.int cs), some (.int x), none]) (st' := [.int (nI σ), .int x]) (I' := I) (J' := J) (G' := va_up G 30 f) rfl ?_
      refine aw_eqS (st := [.int (nI σ), .int (nI s)]) (by rw [show x = nI s from hx]) ?_
      refine aw_cS (st := []) [.int (nI s), .int (nI σ)] oX6_isIn k0_45 rfl rfl rfl rfl rfl (oX0_reckonOdds.dec rfl) (c_isIn (by omega) (by omega)) ?_
      refine aw_eqS (st := [.int (nI (bitN σ s))]) rfl ?_
      refine aw_0eqN rfl (bitN_b _ _) (oX0_reckonOdds.dec rfl) (tgt := 70) rfl (fun h47 => ?_) (fun h47 => ?_)
      · refine aw_run oX0_reckonOdds sxOk 2 (pc' := 29) (L' := [some (.ref 7), some (.int (nI σ)), some (.int (nI w)), some (.int (nI k)), some (.int (G 12 w)), some (.int (encO (tak (G 24) (G 16) (G 13 w) P σ))), some (.int cs), some (.int (x + (nI 1))), none]) (st' := []) (I' := I) (J' := J) (G' := va_up G 30 f) rfl ?_
        exact ih (s + 1) _ _ _ (by omega) (addN hx rfl) (by rw [cntB_f (by unfold oq; rw [bitN_0 h47]; simp)]; exact hcs) (fun j hj => by rw [cntB_f (by unfold oq; rw [bitN_0 h47]; simp)]; exact hf j hj)
      · refine aw_run oX0_reckonOdds sxOk 2 (pc' := 54) (L' := [some (.ref 7), some (.int (nI σ)), some (.int (nI w)), some (.int (nI k)), some (.int (G 12 w)), some (.int (encO (tak (G 24) (G 16) (G 13 w) P σ))), some (.int cs), some (.int x), none]) (st' := [.int (encO (tak (G 24) (G 16) (G 13 w) P σ)), .int x]) (I' := I) (J' := J) (G' := va_up G 30 f) rfl ?_
        refine aw_icmp_eq (oX0_reckonOdds.dec rfl) (tgt := 70) rfl (fun h54 => ?_) (fun h54 => ?_)
        · refine aw_run oX0_reckonOdds sxOk 2 (pc' := 29) (L' := [some (.ref 7), some (.int (nI σ)), some (.int (nI w)), some (.int (nI k)), some (.int (G 12 w)), some (.int (encO (tak (G 24) (G 16) (G 13 w) P σ))), some (.int cs), some (.int (x + (nI 1))), none]) (st' := []) (I' := I) (J' := J) (G' := va_up G 30 f) rfl ?_
          exact ih (s + 1) _ _ _ (by omega) (addN hx rfl) (by rw [cntB_f (by unfold oq; rw [(encO_s (by omega) (fun r hr => (tak_lt hr).1) (by omega)).mp (hx.symm.trans h54)]; simp)]; exact hcs) (fun j hj => by rw [cntB_f (by unfold oq; rw [(encO_s (by omega) (fun r hr => (tak_lt hr).1) (by omega)).mp (hx.symm.trans h54)]; simp)]; exact hf j hj)
        · refine aw_run oX0_reckonOdds sxOk 2 (pc' := 60) (L' := [some (.ref 7), some (.int (nI σ)), some (.int (nI w)), some (.int (nI k)), some (.int (G 12 w)), some (.int (encO (tak (G 24) (G 16) (G 13 w) P σ))), some (.int cs), some (.int x), none]) (st' := [.int (G 12 w), .ref 7]) (I' := I) (J' := J) (G' := va_up G 30 f) rfl ?_
          refine aw_eqS (st := [.int (nI τ), .ref 7]) (by rw [show G 12 w = nI τ from hτ]) ?_
          refine aw_cVP (st := []) 7 [.int (nI τ)] oX0_addToWays k0_86 rfl rfl rfl rfl rfl rfl rfl rfl (oX0_reckonOdds.dec rfl) (c_addToWays (v := itW τ (cntB (oq σ (tak (G 24) (G 16) (G 13 w) P σ)) s)) (by omega) hf) (fun r60 I60 J60 G60 hq60 => ?_)
          obtain ⟨hr, hI, hJ, f2, hG, hf2⟩ := hq60
          obtain rfl := hr.symm; obtain rfl := hI.symm; obtain rfl := hJ.symm; obtain rfl := hG.symm
          refine aw_eqG (G' := va_up G 30 f2) (bx_uu _ _ _ _) ?_
          refine aw_eqS (st := []) rfl ?_
          refine aw_run oX0_reckonOdds sxOk 6 (pc' := 29) (L' := [some (.ref 7), some (.int (nI σ)), some (.int (nI w)), some (.int (nI k)), some (.int (G 12 w)), some (.int (encO (tak (G 24) (G 16) (G 13 w) P σ))), some (.int (cs * (nI 10))), some (.int (x + (nI 1))), none]) (st' := []) (I' := I) (J' := J) (G' := va_up G 30 f2) rfl ?_
          have hqt : oq σ (tak (G 24) (G 16) (G 13 w) P σ) s = true := by
            unfold oq
            rw [bitN_n0 h47, Bool.true_and, decide_eq_true_eq]
            exact fun e => h54 (hx.trans ((encO_s (by omega) (fun r hr => (tak_lt hr).1) (by omega)).mpr e))
          exact ih (s + 1) _ _ _ (by omega) (addN hx rfl) (by rw [cntB_t hqt, Nat.pow_succ]; exact mulN hcs rfl) (by rw [cntB_t hqt]; exact hf2)
  refine aw_run oX0_reckonOdds sxOk 4 (pc' := 8) (L' := [some (.ref 7), some (.int (nI σ)), some (.int (nI w)), some (.int (nI k)), none, none, none, none, none]) (st' := [.int (nI w), .ref 12]) (I' := I) (J' := J) (G' := G) rfl ?_
  refine aw_iaN w sxOk rfl rfl (by omega) (oX0_reckonOdds.dec rfl) ?_
  refine aw_run oX0_reckonOdds sxOk 4 (pc' := 14) (L' := [some (.ref 7), some (.int (nI σ)), some (.int (nI w)), some (.int (nI k)), some (.int (G 12 w)), none, none, none, none]) (st' := [.int (nI w), .int (nI σ), .ref 7]) (I' := I) (J' := J) (G' := G) rfl ?_
  refine aw_cV (st := []) 7 [.int (nI σ), .int (nI w)] oX0_takenOf k0_58 rfl rfl rfl rfl rfl rfl rfl rfl (oX0_reckonOdds.dec rfl) (c_takenOf hP (by omega) (by omega) (by omega) hsil) ?_
  refine aw_eqS (st := [.int (encO (tak (G 24) (G 16) (G 13 w) P σ))]) rfl ?_
  refine aw_run oX0_reckonOdds sxOk 4 (pc' := 23) (L' := [some (.ref 7), some (.int (nI σ)), some (.int (nI w)), some (.int (nI k)), some (.int (G 12 w)), some (.int (encO (tak (G 24) (G 16) (G 13 w) P σ))), some (.int (nI 1)), none, none]) (st' := [.ref 7]) (I' := I) (J' := J) (G' := G) rfl ?_
  refine aw_cVP (st := []) 7 [] oX0_beginWays k0_83 rfl rfl rfl rfl rfl rfl rfl rfl (oX0_reckonOdds.dec rfl) c_beginWays (fun r23 I23 J23 G23 hq23 => ?_)
  obtain ⟨hr, hI, hJ, f0, hG, hf0⟩ := hq23
  obtain rfl := hr.symm; obtain rfl := hI.symm; obtain rfl := hJ.symm; obtain rfl := hG.symm
  refine aw_eqS (st := []) rfl ?_
  refine aw_run oX0_reckonOdds sxOk 2 (pc' := 29) (L' := [some (.ref 7), some (.int (nI σ)), some (.int (nI w)), some (.int (nI k)), some (.int (G 12 w)), some (.int (encO (tak (G 24) (G 16) (G 13 w) P σ))), some (.int (nI 1)), some (.int (nI 0)), none]) (st' := []) (I' := I) (J' := J) (G' := va_up G 30 f0) rfl ?_
  exact loop P 0 _ _ _ (by omega) rfl rfl hf0
