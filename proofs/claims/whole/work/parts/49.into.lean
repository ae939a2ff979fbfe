set_option maxRecDepth 20000 in
theorem c_readInto {I : II} {J : JJ} {G : II} {bt : Nat → Nat} {n : Nat} (hbt : ∀ i, i < 180 → G 10 i = nI (bt i) ∧ bt i < 256) (hn : I 1 1 = nI n) (hn180 : n ≤ 180) : AMet SX mX5_readInto [.ref 1, .ref 3] I J G (fun r I' J' G' => ∃ (x : Int32) (I2 : II) (k1 v1 : Int32) (p1 e1 : Nat), r = some (.int x) ∧ I' = up2 (up2 (up2 (up2 I2 1 2 k1) 1 3 (nI p1)) 1 4 (nI e1)) 1 5 v1 ∧ J' = J ∧ (∀ k j, k ≠ 3 → I2 k j = I k j) ∧ (∀ k, k ≠ 11 → (k < 18 ∨ 23 < k) → G' k = G k) ∧ (∀ g, prs bt n 200 (skp bt n 0) pd0 0 = .inl g → g ≤ n ∧ x = -nI 10 - nI g) ∧ (∀ k D, prs bt n 200 (skp bt n 0) pd0 0 = .inr (k, D) → x = nI k ∧ k ≤ 180 ∧ pdOk D ∧ DR I2 G' D)) := by
  refine amet_en oX5_readInto rfl rfl (L := [some (.ref 1), some (.ref 3), none]) rfl ?_
  have hI0 : ∀ q, I q = I q := fun _ => rfl
  have loop : ∀ (m p k f : Nat) (x v : Int32) (I2 G2 : II) (D : PD), (n - p ≤ m) → (p ≤ n) → (x = nI k) → (k ≤ p) → (f + k = 200) → (tkK bt n p = 1 ∨ tkK bt n p = 2 → v = nI (tkV bt n p)) → (DR I2 G2 D) → (pdOk D) → (∀ k j, k ≠ 3 → I2 k j = I k j) → (∀ k, k ≠ 11 → (k < 18 ∨ 23 < k) → G2 k = G k) → (prs bt n f p D k = prs bt n 200 (skp bt n 0) pd0 0) → AW SX mX5_readInto 15 [some (.ref 1), some (.ref 3), some (.int x)] [] (up2 (up2 (up2 (up2 I2 1 2 (nI (tkK bt n p))) 1 3 (nI p)) 1 4 (nI (tkE bt n p))) 1 5 v) J G2 (fun r I' J' G' => ∃ (x : Int32) (I2 : II) (k1 v1 : Int32) (p1 e1 : Nat), r = some (.int x) ∧ I' = up2 (up2 (up2 (up2 I2 1 2 k1) 1 3 (nI p1)) 1 4 (nI e1)) 1 5 v1 ∧ J' = J ∧ (∀ k j, k ≠ 3 → I2 k j = I k j) ∧ (∀ k, k ≠ 11 → (k < 18 ∨ 23 < k) → G' k = G k) ∧ (∀ g, prs bt n 200 (skp bt n 0) pd0 0 = .inl g → g ≤ n ∧ x = -nI 10 - nI g) ∧ (∀ k D, prs bt n 200 (skp bt n 0) pd0 0 = .inr (k, D) → x = nI k ∧ k ≤ 180 ∧ pdOk D ∧ DR I2 G' D)) := by
    intro m
    induction m with
    | zero =>
      intro p k f x v I2 G2 D hm hpn hx hkp hf hv hD hok hI2 hG2 hR
      obtain ⟨f, rfl⟩ : ∃ f', f = f' + 1 := ⟨f - 1, by omega⟩
      have hR2 : prs bt n 200 (skp bt n 0) pd0 0 = .inr (k, D) := by rw [← hR]; exact prs_0 (if_pos (by omega))
      refine aw_run oX5_readInto sxOk 2 (pc' := 19) (L' := [some (.ref 1), some (.ref 3), some (.int x)]) (st' := [.int (nI (tkK bt n p))]) (I' := up2 (up2 (up2 (up2 I2 1 2 (nI (tkK bt n p))) 1 3 (nI p)) 1 4 (nI (tkE bt n p))) 1 5 v) (J' := J) (G' := G2) rfl ?_
      refine aw_0eqN rfl (Nat.lt_of_le_of_lt tkK_le (by decide)) (oX5_readInto.dec rfl) (tgt := 51) rfl (fun h19 => ?_) (fun h19 => absurd (if_pos (by omega)) h19)
      refine aw_run oX5_readInto sxOk 1 (pc' := 52) (L' := [some (.ref 1), some (.ref 3), some (.int x)]) (st' := [.int x]) (I' := up2 (up2 (up2 (up2 I2 1 2 (nI (tkK bt n p))) 1 3 (nI p)) 1 4 (nI (tkE bt n p))) 1 5 v) (J' := J) (G' := G2) rfl ?_
      exact aw_iret rfl (oX5_readInto.dec rfl) (⟨x, I2, _, _, _, _, rfl, rfl, rfl, hI2, hG2, fun g hg => (by rw [hR2] at hg; cases hg), fun k' D' hg => (by rw [hR2] at hg; cases hg; exact ⟨hx, by omega, hok, hD⟩)⟩)
    | succ m ih =>
      intro p k f x v I2 G2 D hm hpn hx hkp hf hv hD hok hI2 hG2 hR
      obtain ⟨f, rfl⟩ : ∃ f', f = f' + 1 := ⟨f - 1, by omega⟩
      have hb2 : ∀ i, i < 180 → G2 10 i = nI (bt i) ∧ bt i < 256 := fun i hi => by rw [hG2 10 (by decide) (by decide)]; exact hbt i hi
      have hn2 : I2 1 1 = nI n := (hI2 1 1 (by decide)).trans hn
      refine aw_run oX5_readInto sxOk 2 (pc' := 19) (L' := [some (.ref 1), some (.ref 3), some (.int x)]) (st' := [.int (nI (tkK bt n p))]) (I' := up2 (up2 (up2 (up2 I2 1 2 (nI (tkK bt n p))) 1 3 (nI p)) 1 4 (nI (tkE bt n p))) 1 5 v) (J' := J) (G' := G2) rfl ?_
      refine aw_0eqN rfl (Nat.lt_of_le_of_lt tkK_le (by decide)) (oX5_readInto.dec rfl) (tgt := 51) rfl (fun h19 => ?_) (fun h19 => ?_)
      · have hR2 : prs bt n 200 (skp bt n 0) pd0 0 = .inr (k, D) := by rw [← hR]; exact prs_0 h19
        refine aw_run oX5_readInto sxOk 1 (pc' := 52) (L' := [some (.ref 1), some (.ref 3), some (.int x)]) (st' := [.int x]) (I' := up2 (up2 (up2 (up2 I2 1 2 (nI (tkK bt n p))) 1 3 (nI p)) 1 4 (nI (tkE bt n p))) 1 5 v) (J' := J) (G' := G2) rfl ?_
        exact aw_iret rfl (oX5_readInto.dec rfl) (⟨x, I2, _, _, _, _, rfl, rfl, rfl, hI2, hG2, fun g hg => (by rw [hR2] at hg; cases hg), fun k' D' hg => (by rw [hR2] at hg; cases hg; exact ⟨hx, by omega, hok, hD⟩)⟩)
      · have hpl := tkK_lt (bt := bt) (n := n) (p := p) h19
        refine aw_run oX5_readInto sxOk 2 (pc' := 26) (L' := [some (.ref 1), some (.ref 3), some (.int x)]) (st' := [.int (nI 180), .int x]) (I' := up2 (up2 (up2 (up2 I2 1 2 (nI (tkK bt n p))) 1 3 (nI p)) 1 4 (nI (tkE bt n p))) 1 5 v) (J' := J) (G' := G2) rfl ?_
        refine aw_geN hx rfl (by omega) (by omega) (oX5_readInto.dec rfl) (tgt := 51) rfl (fun h26 => absurd h26 (by omega)) (fun h26 => ?_)
        refine aw_run oX5_readInto sxOk 2 (pc' := 31) (L' := [some (.ref 1), some (.ref 3), some (.int x)]) (st' := [.ref 3, .ref 1]) (I' := up2 (up2 (up2 (up2 I2 1 2 (nI (tkK bt n p))) 1 3 (nI p)) 1 4 (nI (tkE bt n p))) 1 5 v) (J' := J) (G' := G2) rfl ?_
        refine aw_cVP (st := []) 1 [.ref 3] oX5_readItem k5_34 rfl rfl rfl rfl rfl rfl rfl rfl (oX5_readInto.dec rfl) (c_readItem (I := I2) (J := J) (G := G2) (v0 := v) (p := p) (D := D) hb2 hn2 hn180 (by omega) hv hD hok) (fun r31 I31 J31 G3 hq => ?_)
        obtain ⟨bq, I3, kq, vq, pq, eq, hr, hI, hJ, hfI, hfG, hF, hS⟩ := hq
        obtain rfl := hr.symm; obtain rfl := hI.symm; obtain rfl := hJ.symm
        refine aw_eqS (st := [.int (b1 bq)]) rfl ?_
        refine aw_0neB (oX5_readInto.dec rfl) (tgt := 45) rfl (fun h34 => ?_) (fun h34 => ?_)
        · refine aw_run oX5_readInto sxOk 2 (pc' := 15) (L' := [some (.ref 1), some (.ref 3), some (.int (x + (nI 1)))]) (st' := []) (I' := up2 (up2 (up2 (up2 I3 1 2 kq) 1 3 (nI pq)) 1 4 (nI eq)) 1 5 vq) (J' := J) (G' := G3) rfl ?_
          obtain ⟨q, hq, e1, e2, e3, hvq, hDq⟩ := hS h34
          subst e1; subst e2; subst e3
          have hib := itm_b hn180 hok hq
          exact ih _ (k + 1) f _ _ _ _ _ (by omega) (by omega) (addN hx rfl) (by omega) (by omega) hvq hDq hib.2.2 (fun k j h => (hfI k j h).trans (hI2 k j h)) (fun k h1 h2 => (hfG k h1 h2).trans (hG2 k h1 h2)) (by rw [← hR]; exact (prs_s h19 hq).symm)
        · have hR3 : prs bt n 200 (skp bt n 0) pd0 0 = .inl pq := by rw [← hR]; exact prs_f h19 (hF h34)
          refine aw_run oX5_readInto sxOk 4 (pc' := 44) (L' := [some (.ref 1), some (.ref 3), some (.int x)]) (st' := [.int ((-nI 10) - (nI pq))]) (I' := up2 (up2 (up2 (up2 I3 1 2 kq) 1 3 (nI pq)) 1 4 (nI eq)) 1 5 vq) (J' := J) (G' := G3) rfl ?_
          exact aw_iret rfl (oX5_readInto.dec rfl) (⟨_, I3, _, _, _, _, rfl, rfl, rfl, fun k j h => (hfI k j h).trans (hI2 k j h), fun k h1 h2 => (hfG k h1 h2).trans (hG2 k h1 h2), fun g hg => (by rw [hR3] at hg; cases hg; exact ⟨itm_fb (by omega) (hF h34), rfl⟩), fun k' D' hg => (by rw [hR3] at hg; cases hg)⟩)
  refine aw_run oX5_readInto sxOk 1 (pc' := 1) (L' := [some (.ref 1), some (.ref 3), none]) (st' := [.ref 3]) (I' := I) (J' := J) (G' := G) rfl ?_
  refine aw_cV (st := []) 3 [] oX4_forgetAll k5_19 rfl rfl rfl rfl rfl rfl rfl rfl (oX5_readInto.dec rfl) c_forgetAll ?_
  refine aw_eqS (st := []) rfl ?_
  refine aw_eqI (I' := up2 (up2 (up2 (up2 (up2 (up2 (up2 (up2 I 3 6 (nI 0)) 3 7 (nI 0)) 3 8 (nI 2)) 3 9 (nI 0)) 1 2 ((up2 (up2 (up2 (up2 I 3 6 (nI 0)) 3 7 (nI 0)) 3 8 (nI 2)) 3 9 (nI 0)) 1 2)) 1 3 ((up2 (up2 (up2 (up2 I 3 6 (nI 0)) 3 7 (nI 0)) 3 8 (nI 2)) 3 9 (nI 0)) 1 3)) 1 4 ((up2 (up2 (up2 (up2 I 3 6 (nI 0)) 3 7 (nI 0)) 3 8 (nI 2)) 3 9 (nI 0)) 1 4)) 1 5 ((up2 (up2 (up2 (up2 I 3 6 (nI 0)) 3 7 (nI 0)) 3 8 (nI 2)) 3 9 (nI 0)) 1 5)) (IT_id _).symm ?_
  refine aw_run oX5_readInto sxOk 4 (pc' := 10) (L' := [some (.ref 1), some (.ref 3), none]) (st' := [.ref 1]) (I' := up2 (up2 (up2 (up2 (up2 (up2 (up2 (up2 (up2 I 3 6 (nI 0)) 3 7 (nI 0)) 3 8 (nI 2)) 3 9 (nI 0)) 1 2 ((up2 (up2 (up2 (up2 I 3 6 (nI 0)) 3 7 (nI 0)) 3 8 (nI 2)) 3 9 (nI 0)) 1 2)) 1 3 ((up2 (up2 (up2 (up2 I 3 6 (nI 0)) 3 7 (nI 0)) 3 8 (nI 2)) 3 9 (nI 0)) 1 3)) 1 4 ((up2 (up2 (up2 (up2 I 3 6 (nI 0)) 3 7 (nI 0)) 3 8 (nI 2)) 3 9 (nI 0)) 1 4)) 1 5 ((up2 (up2 (up2 (up2 I 3 6 (nI 0)) 3 7 (nI 0)) 3 8 (nI 2)) 3 9 (nI 0)) 1 5)) 1 4 (nI 0)) (J' := J) (G' := G) rfl ?_
  refine aw_eqI (I' := up2 (up2 (up2 (up2 (up2 (up2 (up2 (up2 I 3 6 (nI 0)) 3 7 (nI 0)) 3 8 (nI 2)) 3 9 (nI 0)) 1 2 ((up2 (up2 (up2 (up2 I 3 6 (nI 0)) 3 7 (nI 0)) 3 8 (nI 2)) 3 9 (nI 0)) 1 2)) 1 3 ((up2 (up2 (up2 (up2 I 3 6 (nI 0)) 3 7 (nI 0)) 3 8 (nI 2)) 3 9 (nI 0)) 1 3)) 1 4 (nI 0)) 1 5 ((up2 (up2 (up2 (up2 I 3 6 (nI 0)) 3 7 (nI 0)) 3 8 (nI 2)) 3 9 (nI 0)) 1 5)) (by rw [IT4]) ?_
  have hsk1 : skp bt n 0 ≤ n := skp_n (by omega)
  have hse1 : tkE bt n (skp bt n 0) ≤ n := tkE_n hsk1
  refine aw_cVP (st := []) 1 [] oX5_scan k5_28 rfl rfl rfl rfl rfl rfl rfl rfl (oX5_readInto.dec rfl) (c_scan (I := up2 (up2 (up2 (up2 I 3 6 (nI 0)) 3 7 (nI 0)) 3 8 (nI 2)) 3 9 (nI 0)) (J := J) (G := G) (k0 := (up2 (up2 (up2 (up2 I 3 6 (nI 0)) 3 7 (nI 0)) 3 8 (nI 2)) 3 9 (nI 0)) 1 2) (p0 := (up2 (up2 (up2 (up2 I 3 6 (nI 0)) 3 7 (nI 0)) 3 8 (nI 2)) 3 9 (nI 0)) 1 3) (v0 := (up2 (up2 (up2 (up2 I 3 6 (nI 0)) 3 7 (nI 0)) 3 8 (nI 2)) 3 9 (nI 0)) 1 5) (e0 := 0) hbt hn hn180 (by omega)) (fun r10 I10 J10 G10 hq10 => ?_)
  obtain ⟨hr, hJ, hG, v1, hI, hv1⟩ := hq10
  obtain rfl := hr.symm; obtain rfl := hI.symm; obtain rfl := hJ.symm; obtain rfl := hG.symm
  refine aw_eqS (st := []) rfl ?_
  refine aw_run oX5_readInto sxOk 2 (pc' := 15) (L' := [some (.ref 1), some (.ref 3), some (.int (nI 0))]) (st' := []) (I' := up2 (up2 (up2 (up2 (up2 (up2 (up2 (up2 I 3 6 (nI 0)) 3 7 (nI 0)) 3 8 (nI 2)) 3 9 (nI 0)) 1 2 (nI (tkK bt n (skp bt n 0)))) 1 3 (nI (skp bt n 0))) 1 4 (nI (tkE bt n (skp bt n 0)))) 1 5 v1) (J' := J) (G' := G) rfl ?_
  exact loop n (skp bt n 0) 0 200 _ _ _ _ pd0 (by omega) (skp_n (by omega)) rfl (by omega) rfl hv1 ⟨rfl, rfl, rfl, rfl, fun i h => absurd h (Nat.not_lt_zero _), fun i h => absurd h (Nat.not_lt_zero _)⟩ pd0Ok (fun k j h => (if_neg h).trans ((if_neg h).trans ((if_neg h).trans (if_neg h)))) (fun k _ _ => rfl) rfl
