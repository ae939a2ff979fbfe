set_option maxRecDepth 20000 in
theorem c_season_f {I : II} {J : JJ} {G : II} {bt : Nat → Nat} {n : Nat} (hbt : ∀ i, i < 180 → G 10 i = nI (bt i) ∧ bt i < 256) (hn : I 1 1 = nI n) (hn180 : n ≤ 180) {g : Nat} (hR : prs bt n 200 (skp bt n 0) pd0 0 = .inl g) : AMet SX mX6_season [.ref 0] I J G (fun r I' J' G' => r = some (.int (-nI 10 - nI g)) ∧ g ≤ n ∧ J' = J ∧ (∀ k j, k ≠ 3 → (k = 1 → j < 2) → I' k j = I k j) ∧ (∀ k, k ≠ 11 → (k < 18 ∨ 23 < k) → G' k = G k)) := by
  refine amet_en oX6_season rfl rfl (L := [some (.ref 0), none]) rfl ?_
  refine aw_run oX6_season sxOk 4 (pc' := 8) (L' := [some (.ref 0), none]) (st' := [.ref 3, .ref 1]) (I' := I) (J' := J) (G' := G) rfl ?_
  refine aw_cVP (st := []) 1 [.ref 3] oX5_readInto k6_72 rfl rfl rfl rfl rfl rfl rfl rfl (oX6_season.dec rfl) (c_readInto (I := I) (J := J) (G := G) hbt hn hn180) (fun r8 I8 J8 G2 hq => ?_)
  obtain ⟨x, I2, kq, vq, pq, eq, hr, hI, hJ, hfI, hfG, hF, hS⟩ := hq
  obtain rfl := hr.symm; obtain rfl := hI.symm; obtain rfl := hJ.symm
  obtain ⟨hg, rfl⟩ := hF _ hR
  refine aw_eqS (st := [.int (-nI 10 - nI g)]) rfl ?_
  refine aw_run oX6_season sxOk 2 (pc' := 13) (L' := [some (.ref 0), some (.int (-nI 10 - nI g))]) (st' := [.int (-nI 10 - nI g)]) (I' := up2 (up2 (up2 (up2 I2 1 2 kq) 1 3 (nI pq)) 1 4 (nI eq)) 1 5 vq) (J' := J) (G' := G2) rfl ?_
  refine aw_if_ge (oX6_season.dec rfl) (tgt := 18) rfl (fun h13 => absurd h13 (negX (by omega))) (fun h13 => ?_)
  refine aw_run oX6_season sxOk 1 (pc' := 17) (L' := [some (.ref 0), some (.int (-nI 10 - nI g))]) (st' := [.int (-nI 10 - nI g)]) (I' := up2 (up2 (up2 (up2 I2 1 2 kq) 1 3 (nI pq)) 1 4 (nI eq)) 1 5 vq) (J' := J) (G' := G2) rfl ?_
  exact aw_iret rfl (oX6_season.dec rfl) (⟨rfl, hg, rfl, fun k j h1 h2 => (itNe h2).trans (hfI k j h1), hfG⟩)
set_option maxRecDepth 20000 in
theorem c_season_s {I : II} {J : JJ} {G : II} {bt : Nat → Nat} {n : Nat} (hbt : ∀ i, i < 180 → G 10 i = nI (bt i) ∧ bt i < 256) (hn : I 1 1 = nI n) (hn180 : n ≤ 180) {k : Nat} {D : PD} (hR : prs bt n 200 (skp bt n 0) pd0 0 = .inr (k, D)) : AMet SX mX6_season [.ref 0] I J G (fun r I' J' G' => r = some (.int (nI k)) ∧ k ≤ 180 ∧ pdOk D ∧ J' = J ∧ I' 1 1 = nI 0 ∧ I' 2 6 = nI (pW D) ∧ I' 2 7 = nI (pP D) ∧ I' 2 8 = nI (pSh D) ∧ I' 4 2 = nI 0 ∧ I' 5 3 = nI 0 ∧ I' 6 3 = nI 0 ∧ (∀ i, i < pW D → G' 12 i = nI (pSt D i) ∧ G' 13 i = nI (pPi D i)) ∧ (∀ i, i < pP D → G' 16 i = nI (pGu D i) ∧ G' 17 i = nI (pRe D i)) ∧ (∀ j, j < 18 → G' 24 j = begR (fun i => nI (pLi D i)) (fun i => nI (pHi D i)) (pP D) j) ∧ G' 10 = G 10) := by
  refine amet_en oX6_season rfl rfl (L := [some (.ref 0), none]) rfl ?_
  refine aw_run oX6_season sxOk 4 (pc' := 8) (L' := [some (.ref 0), none]) (st' := [.ref 3, .ref 1]) (I' := I) (J' := J) (G' := G) rfl ?_
  refine aw_cVP (st := []) 1 [.ref 3] oX5_readInto k6_72 rfl rfl rfl rfl rfl rfl rfl rfl (oX6_season.dec rfl) (c_readInto (I := I) (J := J) (G := G) hbt hn hn180) (fun r8 I8 J8 G2 hq => ?_)
  obtain ⟨x, I2, kq, vq, pq, eq, hr, hI, hJ, hfI, hfG, hF, hS⟩ := hq
  obtain rfl := hr.symm; obtain rfl := hI.symm; obtain rfl := hJ.symm
  obtain ⟨rfl, hk, hok, hD⟩ := hS _ _ hR
  have hT : I2 3 9 = nI 0 ∨ I2 3 9 = nI 1 := by rw [hD.2.2.2.1]; exact b1_01 _
  refine aw_eqS (st := [.int (nI k)]) rfl ?_
  refine aw_run oX6_season sxOk 2 (pc' := 13) (L' := [some (.ref 0), some (.int (nI k))]) (st' := [.int (nI k)]) (I' := up2 (up2 (up2 (up2 I2 1 2 kq) 1 3 (nI pq)) 1 4 (nI eq)) 1 5 vq) (J' := J) (G' := G2) rfl ?_
  refine aw_0geN rfl (by omega) (oX6_season.dec rfl) (tgt := 18) rfl ?_
  refine aw_run oX6_season sxOk 8 (pc' := 34) (L' := [some (.ref 0), some (.int (nI k))]) (st' := [.ref 3, .ref 2]) (I' := up2 (up2 (up2 (up2 (up2 I2 1 2 kq) 1 3 (nI pq)) 1 4 (nI eq)) 1 5 vq) 1 1 (nI 0)) (J' := J) (G' := G2) rfl ?_
  refine aw_cV (st := []) 2 [.ref 3] oX4_copyFrom k6_76 rfl rfl rfl rfl rfl rfl rfl rfl (oX6_season.dec rfl) (c_copySeason (I := up2 (up2 (up2 (up2 (up2 I2 1 2 kq) 1 3 (nI pq)) 1 4 (nI eq)) 1 5 vq) 1 1 (nI 0)) (J := J) (G := G2) hT) ?_
  refine aw_eqS (st := []) rfl ?_
  refine aw_eqI (I' := up2 (up2 (up2 (up2 (up2 (up2 (up2 (up2 (up2 I2 1 2 kq) 1 3 (nI pq)) 1 4 (nI eq)) 1 5 vq) 1 1 (nI 0)) 2 6 (I2 3 6)) 2 7 (I2 3 7)) 2 8 (I2 3 8)) 2 9 (I2 3 9)) rfl ?_
  refine aw_eqG (G' := va_up (va_up (va_up (va_up (va_up (va_up G2 12 (va_cpy (G2 18) (G2 12) 0 0 12)) 13 (va_cpy (G2 19) (G2 13) 0 0 12)) 14 (va_cpy (G2 20) (G2 14) 0 0 5)) 15 (va_cpy (G2 21) (G2 15) 0 0 5)) 16 (va_cpy (G2 22) (G2 16) 0 0 5)) 17 (va_cpy (G2 23) (G2 17) 0 0 5)) rfl ?_
  refine aw_run oX6_season sxOk 4 (pc' := 45) (L' := [some (.ref 0), some (.int (nI k))]) (st' := [.ref 2, .ref 4]) (I' := up2 (up2 (up2 (up2 (up2 (up2 (up2 (up2 (up2 I2 1 2 kq) 1 3 (nI pq)) 1 4 (nI eq)) 1 5 vq) 1 1 (nI 0)) 2 6 (I2 3 6)) 2 7 (I2 3 7)) 2 8 (I2 3 8)) 2 9 (I2 3 9)) (J' := J) (G' := va_up (va_up (va_up (va_up (va_up (va_up G2 12 (va_cpy (G2 18) (G2 12) 0 0 12)) 13 (va_cpy (G2 19) (G2 13) 0 0 12)) 14 (va_cpy (G2 20) (G2 14) 0 0 5)) 15 (va_cpy (G2 21) (G2 15) 0 0 5)) 16 (va_cpy (G2 22) (G2 16) 0 0 5)) 17 (va_cpy (G2 23) (G2 17) 0 0 5)) rfl ?_
  refine aw_cVP (st := []) 4 [.ref 2] oX2_beginWith k6_80 rfl rfl rfl rfl rfl rfl rfl rfl (oX6_season.dec rfl) (c_beginWith (I := up2 (up2 (up2 (up2 (up2 (up2 (up2 (up2 (up2 I2 1 2 kq) 1 3 (nI pq)) 1 4 (nI eq)) 1 5 vq) 1 1 (nI 0)) 2 6 (I2 3 6)) 2 7 (I2 3 7)) 2 8 (I2 3 8)) 2 9 (I2 3 9)) (J := J) (G := va_up (va_up (va_up (va_up (va_up (va_up G2 12 (va_cpy (G2 18) (G2 12) 0 0 12)) 13 (va_cpy (G2 19) (G2 13) 0 0 12)) 14 (va_cpy (G2 20) (G2 14) 0 0 5)) 15 (va_cpy (G2 21) (G2 15) 0 0 5)) 16 (va_cpy (G2 22) (G2 16) 0 0 5)) 17 (va_cpy (G2 23) (G2 17) 0 0 5)) (P := pP D) hD.2.1 hok.2.1) (fun r45 I45 J45 G45 hq45 => ?_)
  obtain ⟨hr, hI, hJ, f, hG, hf⟩ := hq45
  obtain rfl := hr.symm; obtain rfl := hI.symm; obtain rfl := hJ.symm; obtain rfl := hG.symm
  refine aw_eqS (st := []) rfl ?_
  refine aw_run oX6_season sxOk 9 (pc' := 65) (L' := [some (.ref 0), some (.int (nI k))]) (st' := [.int (nI k)]) (I' := up2 (up2 (up2 (up2 (up2 (up2 (up2 (up2 (up2 (up2 (up2 (up2 I2 1 2 kq) 1 3 (nI pq)) 1 4 (nI eq)) 1 5 vq) 1 1 (nI 0)) 2 6 (I2 3 6)) 2 7 (I2 3 7)) 2 8 (I2 3 8)) 2 9 (I2 3 9)) 4 2 (nI 0)) 5 3 (nI 0)) 6 3 (nI 0)) (J' := J) (G' := va_up (va_up (va_up (va_up (va_up (va_up (va_up G2 12 (va_cpy (G2 18) (G2 12) 0 0 12)) 13 (va_cpy (G2 19) (G2 13) 0 0 12)) 14 (va_cpy (G2 20) (G2 14) 0 0 5)) 15 (va_cpy (G2 21) (G2 15) 0 0 5)) 16 (va_cpy (G2 22) (G2 16) 0 0 5)) 17 (va_cpy (G2 23) (G2 17) 0 0 5)) 24 f) rfl ?_
  exact aw_iret rfl (oX6_season.dec rfl) (⟨rfl, hk, hok, rfl, rfl, hD.1, hD.2.1, hD.2.2.1, rfl, rfl, rfl, fun i hi => ⟨(cpy0 (by have := hok.1; omega)).trans (hD.2.2.2.2.1 i hi).1, (cpy0 (by have := hok.1; omega)).trans (hD.2.2.2.2.1 i hi).2⟩, fun i hi => ⟨(cpy0 (by have := hok.2.1; omega)).trans (hD.2.2.2.2.2 i hi).2.2.1, (cpy0 (by have := hok.2.1; omega)).trans (hD.2.2.2.2.2 i hi).2.2.2⟩, fun j hj => (hf j hj).trans (begR_c (fun i hi => (cpy0 (by have := hok.2.1; omega)).trans (hD.2.2.2.2.2 i hi).1) (fun i hi => (cpy0 (by have := hok.2.1; omega)).trans (hD.2.2.2.2.2 i hi).2.1)), hfG 10 (by decide) (by decide)⟩)
