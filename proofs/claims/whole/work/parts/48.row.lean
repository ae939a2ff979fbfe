set_option maxRecDepth 20000 in
theorem c_readItem {I : II} {J : JJ} {G : II} {bt : Nat → Nat} {n : Nat} (hbt : ∀ i, i < 180 → G 10 i = nI (bt i) ∧ bt i < 256) (hn : I 1 1 = nI n) (hn180 : n ≤ 180) {v0 : Int32} {p : Nat} (hp : p ≤ n) (hv0 : tkK bt n p = 1 ∨ tkK bt n p = 2 → v0 = nI (tkV bt n p)) {D : PD} (hD : DR I G D) (hok : pdOk D) : AMet SX mX5_readItem [.ref 1, .ref 3] (up2 (up2 (up2 (up2 I 1 2 (nI (tkK bt n p))) 1 3 (nI p)) 1 4 (nI (tkE bt n p))) 1 5 v0) J G (fun r I' J' G' => ∃ (b : Bool) (I2 : II) (k1 v1 : Int32) (p1 e1 : Nat), r = some (.int (b1 b)) ∧ I' = up2 (up2 (up2 (up2 I2 1 2 k1) 1 3 (nI p1)) 1 4 (nI e1)) 1 5 v1 ∧ J' = J ∧ (∀ k j, k ≠ 3 → I2 k j = I k j) ∧ (∀ k, k ≠ 11 → (k < 18 ∨ 23 < k) → G' k = G k) ∧ (b = false → itm bt n (pW D) (pP D) (pTl D) p = .inl p1) ∧ (b = true → ∃ q, itm bt n (pW D) (pP D) (pTl D) p = .inr q ∧ p1 = q.2.2 ∧ k1 = nI (tkK bt n p1) ∧ e1 = tkE bt n p1 ∧ (tkK bt n p1 = 1 ∨ tkK bt n p1 = 2 → v1 = nI (tkV bt n p1)) ∧ DR I2 G' (addD D q.1 q.2.1))) := by
  refine amet_en oX5_readItem rfl rfl (L := [some (.ref 1), some (.ref 3), none]) rfl ?_
  have hEn : tkE bt n p ≤ n := tkE_n hp
  have hW12 : pW D ≤ 12 := hok.1
  have hP5 : pP D ≤ 5 := hok.2.1
  have main : ∀ (x : Int32) (c : Nat), x = nI c → c = ltr bt n p → c < 256 → AW SX mX5_readItem 17 [some (.ref 1), some (.ref 3), some (.int x)] [] (up2 (up2 (up2 (up2 I 1 2 (nI (tkK bt n p))) 1 3 (nI p)) 1 4 (nI (tkE bt n p))) 1 5 v0) J G (fun r I' J' G' => ∃ (b : Bool) (I2 : II) (k1 v1 : Int32) (p1 e1 : Nat), r = some (.int (b1 b)) ∧ I' = up2 (up2 (up2 (up2 I2 1 2 k1) 1 3 (nI p1)) 1 4 (nI e1)) 1 5 v1 ∧ J' = J ∧ (∀ k j, k ≠ 3 → I2 k j = I k j) ∧ (∀ k, k ≠ 11 → (k < 18 ∨ 23 < k) → G' k = G k) ∧ (b = false → itm bt n (pW D) (pP D) (pTl D) p = .inl p1) ∧ (b = true → ∃ q, itm bt n (pW D) (pP D) (pTl D) p = .inr q ∧ p1 = q.2.2 ∧ k1 = nI (tkK bt n p1) ∧ e1 = tkE bt n p1 ∧ (tkK bt n p1 = 1 ∨ tkK bt n p1 = 2 → v1 = nI (tkV bt n p1)) ∧ DR I2 G' (addD D q.1 q.2.1))) := by
    intro x c hx hc hcb
    subst hx
    by_cases h119 : c = 119
    · subst h119
      refine aw_run oX5_readItem sxOk 2 (pc' := 19) (L' := [some (.ref 1), some (.ref 3), some (.int (nI 119))]) (st' := [.int (nI 119), .ref 3]) (I' := up2 (up2 (up2 (up2 I 1 2 (nI (tkK bt n p))) 1 3 (nI p)) 1 4 (nI (tkE bt n p))) 1 5 v0) (J' := J) (G' := G) rfl ?_
      refine aw_cV (st := []) 3 [.int (nI 119)] oX4_canTake k5_44 rfl rfl rfl rfl rfl rfl rfl rfl (oX5_readItem.dec rfl) (c_canTake_w (I := up2 (up2 (up2 (up2 I 1 2 (nI (tkK bt n p))) 1 3 (nI p)) 1 4 (nI (tkE bt n p))) 1 5 v0) (J := J) (G := G) (W := pW D) hD.1 (by omega)) ?_
      refine aw_eqS (st := [.int (b1 (decide (pW D < 12)))]) rfl ?_
      refine aw_0eqD (oX5_readItem.dec rfl) (tgt := 36) rfl (fun h22 => ?_) (fun h22 => ?_)
      · refine aw_run oX5_readItem sxOk 1 (pc' := 37) (L' := [some (.ref 1), some (.ref 3), some (.int (nI 119))]) (st' := [.int (nI 0)]) (I' := up2 (up2 (up2 (up2 I 1 2 (nI (tkK bt n p))) 1 3 (nI p)) 1 4 (nI (tkE bt n p))) 1 5 v0) (J' := J) (G' := G) rfl ?_
        exact aw_zret rfl (by first | exact Or.inl rfl | exact Or.inr rfl) (oX5_readItem.dec rfl) (⟨false, I, _, _, _, _, rfl, rfl, rfl, fun _ _ _ => rfl, fun k h1 _ => rfl, fun _ => itm_no (by rw [← hc]; exact fun h => h.elim (fun q => h22 q.2) (fun h => h.elim (fun q => absurd q.1 (by decide)) (fun q => absurd q.1 (by decide)))), fun h => (by cases h)⟩)
      · refine aw_run oX5_readItem sxOk 2 (pc' := 27) (L' := [some (.ref 1), some (.ref 3), some (.int (nI 119))]) (st' := [.int (nI 119), .ref 1]) (I' := up2 (up2 (up2 (up2 I 1 2 (nI (tkK bt n p))) 1 3 (nI p)) 1 4 (nI (tkE bt n p))) 1 5 v0) (J' := J) (G' := G) rfl ?_
        refine aw_cS (st := [.ref 1]) [.int (nI 119)] oX5_mostOf k5_48 rfl rfl rfl rfl rfl (oX5_readItem.dec rfl) (c_mostOf_w (I := up2 (up2 (up2 (up2 I 1 2 (nI (tkK bt n p))) 1 3 (nI p)) 1 4 (nI (tkE bt n p))) 1 5 v0) (J := J) (G := G) ) ?_
        refine aw_eqS (st := [.ref 100, .ref 1]) rfl ?_
        refine aw_cVP (st := []) 1 [.ref 100] oX5_readNumbers k5_52 rfl rfl rfl rfl rfl rfl rfl rfl (oX5_readItem.dec rfl) (c_readNumbers_w (I := I) (J := J) (G := G) (k0 := nI (tkK bt n p)) (v0 := v0) (p0 := p) (e0 := tkE bt n p) hbt hn hn180 hEn) (fun r30 I30 J30 G30 hq30 => ?_)
        obtain ⟨bq, kq, vq, pq, eq, fq, hr, hI, hJ, hG, hF, hS⟩ := hq30
        obtain rfl := hr.symm; obtain rfl := hI.symm; obtain rfl := hJ.symm; obtain rfl := hG.symm
        refine aw_eqS (st := [.int (b1 bq)]) rfl ?_
        refine aw_0neB (oX5_readItem.dec rfl) (tgt := 38) rfl (fun h33 => ?_) (fun h33 => ?_)
        · obtain ⟨vs, hvs, hfq⟩ := hS h33
          have hnb := numR_b _ _ _ hEn hvs
          have hen : eq ≤ n := hnb.2.1
          have hm : mayT (ltr bt n p) (pW D) (pP D) (pTl D) := by rw [← hc]; exact Or.inl ⟨rfl, h22⟩
          have hvs2 : numR bt n (msOf (ltr bt n p)) (tkE bt n p) = .inr (vs, eq) := by rw [← hc]; exact hvs
          refine aw_run oX5_readItem sxOk 1 (pc' := 39) (L' := [some (.ref 1), some (.ref 3), some (.int (nI 119))]) (st' := [.ref 1]) (I' := up2 (up2 (up2 (up2 I 1 2 kq) 1 3 (nI pq)) 1 4 (nI eq)) 1 5 vq) (J' := J) (G' := va_up G 11 fq) rfl ?_
          have hsk1 : skp bt n eq ≤ n := skp_n (by omega)
          have hse1 : tkE bt n (skp bt n eq) ≤ n := tkE_n hsk1
          refine aw_cVP (st := []) 1 [] oX5_scan k5_28 rfl rfl rfl rfl rfl rfl rfl rfl (oX5_readItem.dec rfl) (c_scan (I := I) (J := J) (G := va_up G 11 fq) (k0 := kq) (p0 := nI pq) (v0 := vq) (e0 := eq) hbt hn hn180 (by omega)) (fun r39 I39 J39 G39 hq39 => ?_)
          obtain ⟨hr, hJ, hG, v1, hI, hv1⟩ := hq39
          obtain rfl := hr.symm; obtain rfl := hI.symm; obtain rfl := hJ.symm; obtain rfl := hG.symm
          refine aw_eqS (st := []) rfl ?_
          refine aw_run oX5_readItem sxOk 3 (pc' := 47) (L' := [some (.ref 1), some (.ref 3), some (.int (nI 119))]) (st' := [.int (nI 3), .int (nI (tkK bt n (skp bt n eq)))]) (I' := up2 (up2 (up2 (up2 I 1 2 (nI (tkK bt n (skp bt n eq)))) 1 3 (nI (skp bt n eq))) 1 4 (nI (tkE bt n (skp bt n eq)))) 1 5 v1) (J' := J) (G' := va_up G 11 fq) rfl ?_
          refine aw_eqN rfl rfl (Nat.lt_of_le_of_lt tkK_le (by decide)) (by omega) (oX5_readItem.dec rfl) (tgt := 52) rfl (fun h47 => ?_) (fun h47 => ?_)
          · refine aw_run oX5_readItem sxOk 2 (pc' := 55) (L' := [some (.ref 1), some (.ref 3), some (.int (nI 119))]) (st' := [.int (nI 119), .int (nI 119)]) (I' := up2 (up2 (up2 (up2 I 1 2 (nI (tkK bt n (skp bt n eq)))) 1 3 (nI (skp bt n eq))) 1 4 (nI (tkE bt n (skp bt n eq)))) 1 5 v1) (J' := J) (G' := va_up G 11 fq) rfl ?_
            refine aw_neN rfl rfl (by omega) (by omega) (oX5_readItem.dec rfl) (tgt := 77) rfl (fun h55 => absurd h55 (by omega)) (fun h55 => ?_)
            refine aw_run oX5_readItem sxOk 4 (pc' := 64) (L' := [some (.ref 1), some (.ref 3), some (.int (nI 119))]) (st' := [.int (nI 0), .ref 11, .ref 3]) (I' := up2 (up2 (up2 (up2 I 1 2 (nI (tkK bt n (skp bt n eq)))) 1 3 (nI (skp bt n eq))) 1 4 (nI (tkE bt n (skp bt n eq)))) 1 5 v1) (J' := J) (G' := va_up G 11 fq) rfl ?_
            refine aw_iaN 0 sxOk rfl rfl (by omega) (oX5_readItem.dec rfl) ?_
            refine aw_eqS (st := [.int (fq 0), .ref 3]) rfl ?_
            refine aw_run oX5_readItem sxOk 3 (pc' := 70) (L' := [some (.ref 1), some (.ref 3), some (.int (nI 119))]) (st' := [.int (nI 1), .ref 11, .int (fq 0), .ref 3]) (I' := up2 (up2 (up2 (up2 I 1 2 (nI (tkK bt n (skp bt n eq)))) 1 3 (nI (skp bt n eq))) 1 4 (nI (tkE bt n (skp bt n eq)))) 1 5 v1) (J' := J) (G' := va_up G 11 fq) rfl ?_
            refine aw_iaN 1 sxOk rfl rfl (by omega) (oX5_readItem.dec rfl) ?_
            refine aw_eqS (st := [.int (fq 1), .int (fq 0), .ref 3]) rfl ?_
            refine aw_cV (st := []) 3 [.int (fq 0), .int (fq 1)] oX4_addWeek k5_56 rfl rfl rfl rfl rfl rfl rfl rfl (oX5_readItem.dec rfl) (c_addWeek (I := up2 (up2 (up2 (up2 I 1 2 (nI (tkK bt n (skp bt n eq)))) 1 3 (nI (skp bt n eq))) 1 4 (nI (tkE bt n (skp bt n eq)))) 1 5 v1) (J := J) (G := va_up G 11 fq) (Wd0 := pW D) hD.1 (by omega)) ?_
            refine aw_eqS (st := []) rfl ?_
            refine aw_eqI (I' := up2 (up2 (up2 (up2 (up2 I 3 6 (nI (pW D + 1))) 1 2 (nI (tkK bt n (skp bt n eq)))) 1 3 (nI (skp bt n eq))) 1 4 (nI (tkE bt n (skp bt n eq)))) 1 5 v1) (by rw [ITc (by decide)]) ?_
            refine aw_eqG (G' := va_up (va_up (va_up G 11 fq) 18 (upd (G 18) (pW D) (fq 0))) 19 (upd (G 19) (pW D) (fq 1))) rfl ?_
            refine aw_run oX5_readItem sxOk 2 (pc' := 125) (L' := [some (.ref 1), some (.ref 3), some (.int (nI 119))]) (st' := [.ref 1]) (I' := up2 (up2 (up2 (up2 (up2 I 3 6 (nI (pW D + 1))) 1 2 (nI (tkK bt n (skp bt n eq)))) 1 3 (nI (skp bt n eq))) 1 4 (nI (tkE bt n (skp bt n eq)))) 1 5 v1) (J' := J) (G' := va_up (va_up (va_up G 11 fq) 18 (upd (G 18) (pW D) (fq 0))) 19 (upd (G 19) (pW D) (fq 1))) rfl ?_
            have hsk2 : skp bt n (tkE bt n (skp bt n eq)) ≤ n := skp_n (by omega)
            have hse2 : tkE bt n (skp bt n (tkE bt n (skp bt n eq))) ≤ n := tkE_n hsk2
            refine aw_cVP (st := []) 1 [] oX5_scan k5_28 rfl rfl rfl rfl rfl rfl rfl rfl (oX5_readItem.dec rfl) (c_scan (I := up2 I 3 6 (nI (pW D + 1))) (J := J) (G := va_up (va_up (va_up G 11 fq) 18 (upd (G 18) (pW D) (fq 0))) 19 (upd (G 19) (pW D) (fq 1))) (k0 := nI (tkK bt n (skp bt n eq))) (p0 := nI (skp bt n eq)) (v0 := v1) (e0 := tkE bt n (skp bt n eq)) hbt hn hn180 (by omega)) (fun r125 I125 J125 G125 hq125 => ?_)
            obtain ⟨hr, hJ, hG, v2, hI, hv2⟩ := hq125
            obtain rfl := hr.symm; obtain rfl := hI.symm; obtain rfl := hJ.symm; obtain rfl := hG.symm
            refine aw_eqS (st := []) rfl ?_
            refine aw_run oX5_readItem sxOk 1 (pc' := 129) (L' := [some (.ref 1), some (.ref 3), some (.int (nI 119))]) (st' := [.int (nI 1)]) (I' := up2 (up2 (up2 (up2 (up2 I 3 6 (nI (pW D + 1))) 1 2 (nI (tkK bt n (skp bt n (tkE bt n (skp bt n eq)))))) 1 3 (nI (skp bt n (tkE bt n (skp bt n eq))))) 1 4 (nI (tkE bt n (skp bt n (tkE bt n (skp bt n eq)))))) 1 5 v2) (J' := J) (G' := va_up (va_up (va_up G 11 fq) 18 (upd (G 18) (pW D) (fq 0))) 19 (upd (G 19) (pW D) (fq 1))) rfl ?_
            exact aw_zret rfl (by first | exact Or.inl rfl | exact Or.inr rfl) (oX5_readItem.dec rfl) (⟨true, _, _, _, _, _, rfl, rfl, rfl, fun k j h => if_neg h, fun k h1 h2 => (va_up_ne _ _ (by omega)).trans ((va_up_ne _ _ (by omega)).trans (va_up_ne _ _ h1)), fun h => (by cases h), fun _ => ⟨(ltr bt n p, vs, skp bt n (tkE bt n (skp bt n eq))), itm_ok hm hvs2 h47, rfl, rfl, rfl, hv2, by rw [← hc]; exact dr_w hD rfl rfl rfl rfl (by rw [← hfq 0 (by decide)]; rfl) (by rw [← hfq 1 (by decide)]; rfl) rfl rfl rfl rfl⟩⟩)
          · refine aw_run oX5_readItem sxOk 1 (pc' := 51) (L' := [some (.ref 1), some (.ref 3), some (.int (nI 119))]) (st' := [.int (nI 0)]) (I' := up2 (up2 (up2 (up2 I 1 2 (nI (tkK bt n (skp bt n eq)))) 1 3 (nI (skp bt n eq))) 1 4 (nI (tkE bt n (skp bt n eq)))) 1 5 v1) (J' := J) (G' := va_up G 11 fq) rfl ?_
            exact aw_zret rfl (by first | exact Or.inl rfl | exact Or.inr rfl) (oX5_readItem.dec rfl) (⟨false, I, _, _, _, _, rfl, rfl, rfl, fun _ _ _ => rfl, fun k h1 _ => va_up_ne _ _ h1, fun _ => itm_3 hm hvs2 h47, fun h => (by cases h)⟩)
        · have hm : mayT (ltr bt n p) (pW D) (pP D) (pTl D) := by rw [← hc]; exact Or.inl ⟨rfl, h22⟩
          refine aw_run oX5_readItem sxOk 1 (pc' := 37) (L' := [some (.ref 1), some (.ref 3), some (.int (nI 119))]) (st' := [.int (nI 0)]) (I' := up2 (up2 (up2 (up2 I 1 2 kq) 1 3 (nI pq)) 1 4 (nI eq)) 1 5 vq) (J' := J) (G' := va_up G 11 fq) rfl ?_
          exact aw_zret rfl (by first | exact Or.inl rfl | exact Or.inr rfl) (oX5_readItem.dec rfl) (⟨false, I, _, _, _, _, rfl, rfl, rfl, fun _ _ _ => rfl, fun k h1 _ => va_up_ne _ _ h1, fun _ => itm_f hm (by rw [← hc]; exact hF h33), fun h => (by cases h)⟩)
    by_cases h115 : c = 115
    · subst h115
      refine aw_run oX5_readItem sxOk 2 (pc' := 19) (L' := [some (.ref 1), some (.ref 3), some (.int (nI 115))]) (st' := [.int (nI 115), .ref 3]) (I' := up2 (up2 (up2 (up2 I 1 2 (nI (tkK bt n p))) 1 3 (nI p)) 1 4 (nI (tkE bt n p))) 1 5 v0) (J' := J) (G' := G) rfl ?_
      refine aw_cV (st := []) 3 [.int (nI 115)] oX4_canTake k5_44 rfl rfl rfl rfl rfl rfl rfl rfl (oX5_readItem.dec rfl) (c_canTake_s (I := up2 (up2 (up2 (up2 I 1 2 (nI (tkK bt n p))) 1 3 (nI p)) 1 4 (nI (tkE bt n p))) 1 5 v0) (J := J) (G := G) (P := pP D) hD.2.1 (by omega)) ?_
      refine aw_eqS (st := [.int (b1 (decide (pP D < 5)))]) rfl ?_
      refine aw_0eqD (oX5_readItem.dec rfl) (tgt := 36) rfl (fun h22 => ?_) (fun h22 => ?_)
      · refine aw_run oX5_readItem sxOk 1 (pc' := 37) (L' := [some (.ref 1), some (.ref 3), some (.int (nI 115))]) (st' := [.int (nI 0)]) (I' := up2 (up2 (up2 (up2 I 1 2 (nI (tkK bt n p))) 1 3 (nI p)) 1 4 (nI (tkE bt n p))) 1 5 v0) (J' := J) (G' := G) rfl ?_
        exact aw_zret rfl (by first | exact Or.inl rfl | exact Or.inr rfl) (oX5_readItem.dec rfl) (⟨false, I, _, _, _, _, rfl, rfl, rfl, fun _ _ _ => rfl, fun k h1 _ => rfl, fun _ => itm_no (by rw [← hc]; exact fun h => h.elim (fun q => absurd q.1 (by decide)) (fun h => h.elim (fun q => h22 q.2) (fun q => absurd q.1 (by decide)))), fun h => (by cases h)⟩)
      · refine aw_run oX5_readItem sxOk 2 (pc' := 27) (L' := [some (.ref 1), some (.ref 3), some (.int (nI 115))]) (st' := [.int (nI 115), .ref 1]) (I' := up2 (up2 (up2 (up2 I 1 2 (nI (tkK bt n p))) 1 3 (nI p)) 1 4 (nI (tkE bt n p))) 1 5 v0) (J' := J) (G' := G) rfl ?_
        refine aw_cS (st := [.ref 1]) [.int (nI 115)] oX5_mostOf k5_48 rfl rfl rfl rfl rfl (oX5_readItem.dec rfl) (c_mostOf_s (I := up2 (up2 (up2 (up2 I 1 2 (nI (tkK bt n p))) 1 3 (nI p)) 1 4 (nI (tkE bt n p))) 1 5 v0) (J := J) (G := G) ) ?_
        refine aw_eqS (st := [.ref 101, .ref 1]) rfl ?_
        refine aw_cVP (st := []) 1 [.ref 101] oX5_readNumbers k5_52 rfl rfl rfl rfl rfl rfl rfl rfl (oX5_readItem.dec rfl) (c_readNumbers_s (I := I) (J := J) (G := G) (k0 := nI (tkK bt n p)) (v0 := v0) (p0 := p) (e0 := tkE bt n p) hbt hn hn180 hEn) (fun r30 I30 J30 G30 hq30 => ?_)
        obtain ⟨bq, kq, vq, pq, eq, fq, hr, hI, hJ, hG, hF, hS⟩ := hq30
        obtain rfl := hr.symm; obtain rfl := hI.symm; obtain rfl := hJ.symm; obtain rfl := hG.symm
        refine aw_eqS (st := [.int (b1 bq)]) rfl ?_
        refine aw_0neB (oX5_readItem.dec rfl) (tgt := 38) rfl (fun h33 => ?_) (fun h33 => ?_)
        · obtain ⟨vs, hvs, hfq⟩ := hS h33
          have hnb := numR_b _ _ _ hEn hvs
          have hen : eq ≤ n := hnb.2.1
          have hm : mayT (ltr bt n p) (pW D) (pP D) (pTl D) := by rw [← hc]; exact Or.inr (Or.inl ⟨rfl, h22⟩)
          have hvs2 : numR bt n (msOf (ltr bt n p)) (tkE bt n p) = .inr (vs, eq) := by rw [← hc]; exact hvs
          refine aw_run oX5_readItem sxOk 1 (pc' := 39) (L' := [some (.ref 1), some (.ref 3), some (.int (nI 115))]) (st' := [.ref 1]) (I' := up2 (up2 (up2 (up2 I 1 2 kq) 1 3 (nI pq)) 1 4 (nI eq)) 1 5 vq) (J' := J) (G' := va_up G 11 fq) rfl ?_
          have hsk1 : skp bt n eq ≤ n := skp_n (by omega)
          have hse1 : tkE bt n (skp bt n eq) ≤ n := tkE_n hsk1
          refine aw_cVP (st := []) 1 [] oX5_scan k5_28 rfl rfl rfl rfl rfl rfl rfl rfl (oX5_readItem.dec rfl) (c_scan (I := I) (J := J) (G := va_up G 11 fq) (k0 := kq) (p0 := nI pq) (v0 := vq) (e0 := eq) hbt hn hn180 (by omega)) (fun r39 I39 J39 G39 hq39 => ?_)
          obtain ⟨hr, hJ, hG, v1, hI, hv1⟩ := hq39
          obtain rfl := hr.symm; obtain rfl := hI.symm; obtain rfl := hJ.symm; obtain rfl := hG.symm
          refine aw_eqS (st := []) rfl ?_
          refine aw_run oX5_readItem sxOk 3 (pc' := 47) (L' := [some (.ref 1), some (.ref 3), some (.int (nI 115))]) (st' := [.int (nI 3), .int (nI (tkK bt n (skp bt n eq)))]) (I' := up2 (up2 (up2 (up2 I 1 2 (nI (tkK bt n (skp bt n eq)))) 1 3 (nI (skp bt n eq))) 1 4 (nI (tkE bt n (skp bt n eq)))) 1 5 v1) (J' := J) (G' := va_up G 11 fq) rfl ?_
          refine aw_eqN rfl rfl (Nat.lt_of_le_of_lt tkK_le (by decide)) (by omega) (oX5_readItem.dec rfl) (tgt := 52) rfl (fun h47 => ?_) (fun h47 => ?_)
          · refine aw_run oX5_readItem sxOk 2 (pc' := 55) (L' := [some (.ref 1), some (.ref 3), some (.int (nI 115))]) (st' := [.int (nI 119), .int (nI 115)]) (I' := up2 (up2 (up2 (up2 I 1 2 (nI (tkK bt n (skp bt n eq)))) 1 3 (nI (skp bt n eq))) 1 4 (nI (tkE bt n (skp bt n eq)))) 1 5 v1) (J' := J) (G' := va_up G 11 fq) rfl ?_
            refine aw_neN rfl rfl (by omega) (by omega) (oX5_readItem.dec rfl) (tgt := 77) rfl (fun h55 => ?_) (fun h55 => absurd h55 (by omega))
            refine aw_run oX5_readItem sxOk 2 (pc' := 80) (L' := [some (.ref 1), some (.ref 3), some (.int (nI 115))]) (st' := [.int (nI 115), .int (nI 115)]) (I' := up2 (up2 (up2 (up2 I 1 2 (nI (tkK bt n (skp bt n eq)))) 1 3 (nI (skp bt n eq))) 1 4 (nI (tkE bt n (skp bt n eq)))) 1 5 v1) (J' := J) (G' := va_up G 11 fq) rfl ?_
            refine aw_neN rfl rfl (by omega) (by omega) (oX5_readItem.dec rfl) (tgt := 114) rfl (fun h80 => absurd h80 (by omega)) (fun h80 => ?_)
            refine aw_run oX5_readItem sxOk 4 (pc' := 89) (L' := [some (.ref 1), some (.ref 3), some (.int (nI 115))]) (st' := [.int (nI 0), .ref 11, .ref 3]) (I' := up2 (up2 (up2 (up2 I 1 2 (nI (tkK bt n (skp bt n eq)))) 1 3 (nI (skp bt n eq))) 1 4 (nI (tkE bt n (skp bt n eq)))) 1 5 v1) (J' := J) (G' := va_up G 11 fq) rfl ?_
            refine aw_iaN 0 sxOk rfl rfl (by omega) (oX5_readItem.dec rfl) ?_
            refine aw_eqS (st := [.int (fq 0), .ref 3]) rfl ?_
            refine aw_run oX5_readItem sxOk 3 (pc' := 95) (L' := [some (.ref 1), some (.ref 3), some (.int (nI 115))]) (st' := [.int (nI 1), .ref 11, .int (fq 0), .ref 3]) (I' := up2 (up2 (up2 (up2 I 1 2 (nI (tkK bt n (skp bt n eq)))) 1 3 (nI (skp bt n eq))) 1 4 (nI (tkE bt n (skp bt n eq)))) 1 5 v1) (J' := J) (G' := va_up G 11 fq) rfl ?_
            refine aw_iaN 1 sxOk rfl rfl (by omega) (oX5_readItem.dec rfl) ?_
            refine aw_eqS (st := [.int (fq 1), .int (fq 0), .ref 3]) rfl ?_
            refine aw_run oX5_readItem sxOk 3 (pc' := 101) (L' := [some (.ref 1), some (.ref 3), some (.int (nI 115))]) (st' := [.int (nI 2), .ref 11, .int (fq 1), .int (fq 0), .ref 3]) (I' := up2 (up2 (up2 (up2 I 1 2 (nI (tkK bt n (skp bt n eq)))) 1 3 (nI (skp bt n eq))) 1 4 (nI (tkE bt n (skp bt n eq)))) 1 5 v1) (J' := J) (G' := va_up G 11 fq) rfl ?_
            refine aw_iaN 2 sxOk rfl rfl (by omega) (oX5_readItem.dec rfl) ?_
            refine aw_eqS (st := [.int (fq 2), .int (fq 1), .int (fq 0), .ref 3]) rfl ?_
            refine aw_run oX5_readItem sxOk 3 (pc' := 107) (L' := [some (.ref 1), some (.ref 3), some (.int (nI 115))]) (st' := [.int (nI 3), .ref 11, .int (fq 2), .int (fq 1), .int (fq 0), .ref 3]) (I' := up2 (up2 (up2 (up2 I 1 2 (nI (tkK bt n (skp bt n eq)))) 1 3 (nI (skp bt n eq))) 1 4 (nI (tkE bt n (skp bt n eq)))) 1 5 v1) (J' := J) (G' := va_up G 11 fq) rfl ?_
            refine aw_iaN 3 sxOk rfl rfl (by omega) (oX5_readItem.dec rfl) ?_
            refine aw_eqS (st := [.int (fq 3), .int (fq 2), .int (fq 1), .int (fq 0), .ref 3]) rfl ?_
            refine aw_cV (st := []) 3 [.int (fq 0), .int (fq 1), .int (fq 2), .int (fq 3)] oX4_addShip k5_60 rfl rfl rfl rfl rfl rfl rfl rfl (oX5_readItem.dec rfl) (c_addShip (I := up2 (up2 (up2 (up2 I 1 2 (nI (tkK bt n (skp bt n eq)))) 1 3 (nI (skp bt n eq))) 1 4 (nI (tkE bt n (skp bt n eq)))) 1 5 v1) (J := J) (G := va_up G 11 fq) (Pd := pP D) hD.2.1 (by omega)) ?_
            refine aw_eqS (st := []) rfl ?_
            refine aw_eqI (I' := up2 (up2 (up2 (up2 (up2 I 3 7 (nI (pP D + 1))) 1 2 (nI (tkK bt n (skp bt n eq)))) 1 3 (nI (skp bt n eq))) 1 4 (nI (tkE bt n (skp bt n eq)))) 1 5 v1) (by rw [ITc (by decide)]) ?_
            refine aw_eqG (G' := va_up (va_up (va_up (va_up (va_up G 11 fq) 20 (upd (G 20) (pP D) (fq 0))) 21 (upd (G 21) (pP D) (fq 1))) 22 (upd (G 22) (pP D) (fq 2))) 23 (upd (G 23) (pP D) (fq 3))) rfl ?_
            refine aw_run oX5_readItem sxOk 2 (pc' := 125) (L' := [some (.ref 1), some (.ref 3), some (.int (nI 115))]) (st' := [.ref 1]) (I' := up2 (up2 (up2 (up2 (up2 I 3 7 (nI (pP D + 1))) 1 2 (nI (tkK bt n (skp bt n eq)))) 1 3 (nI (skp bt n eq))) 1 4 (nI (tkE bt n (skp bt n eq)))) 1 5 v1) (J' := J) (G' := va_up (va_up (va_up (va_up (va_up G 11 fq) 20 (upd (G 20) (pP D) (fq 0))) 21 (upd (G 21) (pP D) (fq 1))) 22 (upd (G 22) (pP D) (fq 2))) 23 (upd (G 23) (pP D) (fq 3))) rfl ?_
            have hsk2 : skp bt n (tkE bt n (skp bt n eq)) ≤ n := skp_n (by omega)
            have hse2 : tkE bt n (skp bt n (tkE bt n (skp bt n eq))) ≤ n := tkE_n hsk2
            refine aw_cVP (st := []) 1 [] oX5_scan k5_28 rfl rfl rfl rfl rfl rfl rfl rfl (oX5_readItem.dec rfl) (c_scan (I := up2 I 3 7 (nI (pP D + 1))) (J := J) (G := va_up (va_up (va_up (va_up (va_up G 11 fq) 20 (upd (G 20) (pP D) (fq 0))) 21 (upd (G 21) (pP D) (fq 1))) 22 (upd (G 22) (pP D) (fq 2))) 23 (upd (G 23) (pP D) (fq 3))) (k0 := nI (tkK bt n (skp bt n eq))) (p0 := nI (skp bt n eq)) (v0 := v1) (e0 := tkE bt n (skp bt n eq)) hbt hn hn180 (by omega)) (fun r125 I125 J125 G125 hq125 => ?_)
            obtain ⟨hr, hJ, hG, v2, hI, hv2⟩ := hq125
            obtain rfl := hr.symm; obtain rfl := hI.symm; obtain rfl := hJ.symm; obtain rfl := hG.symm
            refine aw_eqS (st := []) rfl ?_
            refine aw_run oX5_readItem sxOk 1 (pc' := 129) (L' := [some (.ref 1), some (.ref 3), some (.int (nI 115))]) (st' := [.int (nI 1)]) (I' := up2 (up2 (up2 (up2 (up2 I 3 7 (nI (pP D + 1))) 1 2 (nI (tkK bt n (skp bt n (tkE bt n (skp bt n eq)))))) 1 3 (nI (skp bt n (tkE bt n (skp bt n eq))))) 1 4 (nI (tkE bt n (skp bt n (tkE bt n (skp bt n eq)))))) 1 5 v2) (J' := J) (G' := va_up (va_up (va_up (va_up (va_up G 11 fq) 20 (upd (G 20) (pP D) (fq 0))) 21 (upd (G 21) (pP D) (fq 1))) 22 (upd (G 22) (pP D) (fq 2))) 23 (upd (G 23) (pP D) (fq 3))) rfl ?_
            exact aw_zret rfl (by first | exact Or.inl rfl | exact Or.inr rfl) (oX5_readItem.dec rfl) (⟨true, _, _, _, _, _, rfl, rfl, rfl, fun k j h => if_neg h, fun k h1 h2 => (va_up_ne _ _ (by omega)).trans ((va_up_ne _ _ (by omega)).trans ((va_up_ne _ _ (by omega)).trans ((va_up_ne _ _ (by omega)).trans (va_up_ne _ _ h1)))), fun h => (by cases h), fun _ => ⟨(ltr bt n p, vs, skp bt n (tkE bt n (skp bt n eq))), itm_ok hm hvs2 h47, rfl, rfl, rfl, hv2, by rw [← hc]; exact dr_s hD rfl rfl rfl rfl (by rw [← hfq 0 (by decide)]; rfl) (by rw [← hfq 1 (by decide)]; rfl) (by rw [← hfq 2 (by decide)]; rfl) (by rw [← hfq 3 (by decide)]; rfl) rfl rfl⟩⟩)
          · refine aw_run oX5_readItem sxOk 1 (pc' := 51) (L' := [some (.ref 1), some (.ref 3), some (.int (nI 115))]) (st' := [.int (nI 0)]) (I' := up2 (up2 (up2 (up2 I 1 2 (nI (tkK bt n (skp bt n eq)))) 1 3 (nI (skp bt n eq))) 1 4 (nI (tkE bt n (skp bt n eq)))) 1 5 v1) (J' := J) (G' := va_up G 11 fq) rfl ?_
            exact aw_zret rfl (by first | exact Or.inl rfl | exact Or.inr rfl) (oX5_readItem.dec rfl) (⟨false, I, _, _, _, _, rfl, rfl, rfl, fun _ _ _ => rfl, fun k h1 _ => va_up_ne _ _ h1, fun _ => itm_3 hm hvs2 h47, fun h => (by cases h)⟩)
        · have hm : mayT (ltr bt n p) (pW D) (pP D) (pTl D) := by rw [← hc]; exact Or.inr (Or.inl ⟨rfl, h22⟩)
          refine aw_run oX5_readItem sxOk 1 (pc' := 37) (L' := [some (.ref 1), some (.ref 3), some (.int (nI 115))]) (st' := [.int (nI 0)]) (I' := up2 (up2 (up2 (up2 I 1 2 kq) 1 3 (nI pq)) 1 4 (nI eq)) 1 5 vq) (J' := J) (G' := va_up G 11 fq) rfl ?_
          exact aw_zret rfl (by first | exact Or.inl rfl | exact Or.inr rfl) (oX5_readItem.dec rfl) (⟨false, I, _, _, _, _, rfl, rfl, rfl, fun _ _ _ => rfl, fun k h1 _ => va_up_ne _ _ h1, fun _ => itm_f hm (by rw [← hc]; exact hF h33), fun h => (by cases h)⟩)
    by_cases h107 : c = 107
    · subst h107
      have hb2 : ∀ b : Bool, b = false ∨ b = true := by decide
      obtain htl | htl := hb2 (pTl D)
      · have hT : I 3 9 = nI 0 := by rw [hD.2.2.2.1, htl]; rfl
        refine aw_run oX5_readItem sxOk 2 (pc' := 19) (L' := [some (.ref 1), some (.ref 3), some (.int (nI 107))]) (st' := [.int (nI 107), .ref 3]) (I' := up2 (up2 (up2 (up2 I 1 2 (nI (tkK bt n p))) 1 3 (nI p)) 1 4 (nI (tkE bt n p))) 1 5 v0) (J' := J) (G' := G) rfl ?_
        refine aw_cV (st := []) 3 [.int (nI 107)] oX4_canTake k5_44 rfl rfl rfl rfl rfl rfl rfl rfl (oX5_readItem.dec rfl) (c_canTake_k0 (I := up2 (up2 (up2 (up2 I 1 2 (nI (tkK bt n p))) 1 3 (nI p)) 1 4 (nI (tkE bt n p))) 1 5 v0) (J := J) (G := G) hT) ?_
        refine aw_eqS (st := [.int (nI 1)]) rfl ?_
        refine aw_0eqN rfl (by omega) (oX5_readItem.dec rfl) (tgt := 36) rfl (fun h22 => absurd h22 (by omega)) (fun h22 => ?_)
        refine aw_run oX5_readItem sxOk 2 (pc' := 27) (L' := [some (.ref 1), some (.ref 3), some (.int (nI 107))]) (st' := [.int (nI 107), .ref 1]) (I' := up2 (up2 (up2 (up2 I 1 2 (nI (tkK bt n p))) 1 3 (nI p)) 1 4 (nI (tkE bt n p))) 1 5 v0) (J' := J) (G' := G) rfl ?_
        refine aw_cS (st := [.ref 1]) [.int (nI 107)] oX5_mostOf k5_48 rfl rfl rfl rfl rfl (oX5_readItem.dec rfl) (c_mostOf_k (I := up2 (up2 (up2 (up2 I 1 2 (nI (tkK bt n p))) 1 3 (nI p)) 1 4 (nI (tkE bt n p))) 1 5 v0) (J := J) (G := G) ) ?_
        refine aw_eqS (st := [.ref 102, .ref 1]) rfl ?_
        refine aw_cVP (st := []) 1 [.ref 102] oX5_readNumbers k5_52 rfl rfl rfl rfl rfl rfl rfl rfl (oX5_readItem.dec rfl) (c_readNumbers_k (I := I) (J := J) (G := G) (k0 := nI (tkK bt n p)) (v0 := v0) (p0 := p) (e0 := tkE bt n p) hbt hn hn180 hEn) (fun r30 I30 J30 G30 hq30 => ?_)
        obtain ⟨bq, kq, vq, pq, eq, fq, hr, hI, hJ, hG, hF, hS⟩ := hq30
        obtain rfl := hr.symm; obtain rfl := hI.symm; obtain rfl := hJ.symm; obtain rfl := hG.symm
        refine aw_eqS (st := [.int (b1 bq)]) rfl ?_
        refine aw_0neB (oX5_readItem.dec rfl) (tgt := 38) rfl (fun h33 => ?_) (fun h33 => ?_)
        · obtain ⟨vs, hvs, hfq⟩ := hS h33
          have hnb := numR_b _ _ _ hEn hvs
          have hen : eq ≤ n := hnb.2.1
          have hm : mayT (ltr bt n p) (pW D) (pP D) (pTl D) := by rw [← hc]; exact Or.inr (Or.inr ⟨rfl, htl⟩)
          have hvs2 : numR bt n (msOf (ltr bt n p)) (tkE bt n p) = .inr (vs, eq) := by rw [← hc]; exact hvs
          refine aw_run oX5_readItem sxOk 1 (pc' := 39) (L' := [some (.ref 1), some (.ref 3), some (.int (nI 107))]) (st' := [.ref 1]) (I' := up2 (up2 (up2 (up2 I 1 2 kq) 1 3 (nI pq)) 1 4 (nI eq)) 1 5 vq) (J' := J) (G' := va_up G 11 fq) rfl ?_
          have hsk1 : skp bt n eq ≤ n := skp_n (by omega)
          have hse1 : tkE bt n (skp bt n eq) ≤ n := tkE_n hsk1
          refine aw_cVP (st := []) 1 [] oX5_scan k5_28 rfl rfl rfl rfl rfl rfl rfl rfl (oX5_readItem.dec rfl) (c_scan (I := I) (J := J) (G := va_up G 11 fq) (k0 := kq) (p0 := nI pq) (v0 := vq) (e0 := eq) hbt hn hn180 (by omega)) (fun r39 I39 J39 G39 hq39 => ?_)
          obtain ⟨hr, hJ, hG, v1, hI, hv1⟩ := hq39
          obtain rfl := hr.symm; obtain rfl := hI.symm; obtain rfl := hJ.symm; obtain rfl := hG.symm
          refine aw_eqS (st := []) rfl ?_
          refine aw_run oX5_readItem sxOk 3 (pc' := 47) (L' := [some (.ref 1), some (.ref 3), some (.int (nI 107))]) (st' := [.int (nI 3), .int (nI (tkK bt n (skp bt n eq)))]) (I' := up2 (up2 (up2 (up2 I 1 2 (nI (tkK bt n (skp bt n eq)))) 1 3 (nI (skp bt n eq))) 1 4 (nI (tkE bt n (skp bt n eq)))) 1 5 v1) (J' := J) (G' := va_up G 11 fq) rfl ?_
          refine aw_eqN rfl rfl (Nat.lt_of_le_of_lt tkK_le (by decide)) (by omega) (oX5_readItem.dec rfl) (tgt := 52) rfl (fun h47 => ?_) (fun h47 => ?_)
          · refine aw_run oX5_readItem sxOk 2 (pc' := 55) (L' := [some (.ref 1), some (.ref 3), some (.int (nI 107))]) (st' := [.int (nI 119), .int (nI 107)]) (I' := up2 (up2 (up2 (up2 I 1 2 (nI (tkK bt n (skp bt n eq)))) 1 3 (nI (skp bt n eq))) 1 4 (nI (tkE bt n (skp bt n eq)))) 1 5 v1) (J' := J) (G' := va_up G 11 fq) rfl ?_
            refine aw_neN rfl rfl (by omega) (by omega) (oX5_readItem.dec rfl) (tgt := 77) rfl (fun h55 => ?_) (fun h55 => absurd h55 (by omega))
            refine aw_run oX5_readItem sxOk 2 (pc' := 80) (L' := [some (.ref 1), some (.ref 3), some (.int (nI 107))]) (st' := [.int (nI 115), .int (nI 107)]) (I' := up2 (up2 (up2 (up2 I 1 2 (nI (tkK bt n (skp bt n eq)))) 1 3 (nI (skp bt n eq))) 1 4 (nI (tkE bt n (skp bt n eq)))) 1 5 v1) (J' := J) (G' := va_up G 11 fq) rfl ?_
            refine aw_neN rfl rfl (by omega) (by omega) (oX5_readItem.dec rfl) (tgt := 114) rfl (fun h80 => ?_) (fun h80 => absurd h80 (by omega))
            refine aw_run oX5_readItem sxOk 4 (pc' := 120) (L' := [some (.ref 1), some (.ref 3), some (.int (nI 107))]) (st' := [.int (nI 0), .ref 11, .ref 3]) (I' := up2 (up2 (up2 (up2 I 1 2 (nI (tkK bt n (skp bt n eq)))) 1 3 (nI (skp bt n eq))) 1 4 (nI (tkE bt n (skp bt n eq)))) 1 5 v1) (J' := J) (G' := va_up G 11 fq) rfl ?_
            refine aw_iaN 0 sxOk rfl rfl (by omega) (oX5_readItem.dec rfl) ?_
            refine aw_eqS (st := [.int (fq 0), .ref 3]) rfl ?_
            refine aw_cV (st := []) 3 [.int (fq 0)] oX4_setShare k5_64 rfl rfl rfl rfl rfl rfl rfl rfl (oX5_readItem.dec rfl) (c_setShare (I := up2 (up2 (up2 (up2 I 1 2 (nI (tkK bt n (skp bt n eq)))) 1 3 (nI (skp bt n eq))) 1 4 (nI (tkE bt n (skp bt n eq)))) 1 5 v1) (J := J) (G := va_up G 11 fq) ) ?_
            refine aw_eqS (st := []) rfl ?_
            refine aw_eqI (I' := up2 (up2 (up2 (up2 (up2 (up2 I 3 8 (fq 0)) 3 9 (nI 1)) 1 2 (nI (tkK bt n (skp bt n eq)))) 1 3 (nI (skp bt n eq))) 1 4 (nI (tkE bt n (skp bt n eq)))) 1 5 v1) (by rw [ITc (by decide), ITc (by decide)]) ?_
            refine aw_run oX5_readItem sxOk 1 (pc' := 125) (L' := [some (.ref 1), some (.ref 3), some (.int (nI 107))]) (st' := [.ref 1]) (I' := up2 (up2 (up2 (up2 (up2 (up2 I 3 8 (fq 0)) 3 9 (nI 1)) 1 2 (nI (tkK bt n (skp bt n eq)))) 1 3 (nI (skp bt n eq))) 1 4 (nI (tkE bt n (skp bt n eq)))) 1 5 v1) (J' := J) (G' := va_up G 11 fq) rfl ?_
            have hsk2 : skp bt n (tkE bt n (skp bt n eq)) ≤ n := skp_n (by omega)
            have hse2 : tkE bt n (skp bt n (tkE bt n (skp bt n eq))) ≤ n := tkE_n hsk2
            refine aw_cVP (st := []) 1 [] oX5_scan k5_28 rfl rfl rfl rfl rfl rfl rfl rfl (oX5_readItem.dec rfl) (c_scan (I := up2 (up2 I 3 8 (fq 0)) 3 9 (nI 1)) (J := J) (G := va_up G 11 fq) (k0 := nI (tkK bt n (skp bt n eq))) (p0 := nI (skp bt n eq)) (v0 := v1) (e0 := tkE bt n (skp bt n eq)) hbt hn hn180 (by omega)) (fun r125 I125 J125 G125 hq125 => ?_)
            obtain ⟨hr, hJ, hG, v2, hI, hv2⟩ := hq125
            obtain rfl := hr.symm; obtain rfl := hI.symm; obtain rfl := hJ.symm; obtain rfl := hG.symm
            refine aw_eqS (st := []) rfl ?_
            refine aw_run oX5_readItem sxOk 1 (pc' := 129) (L' := [some (.ref 1), some (.ref 3), some (.int (nI 107))]) (st' := [.int (nI 1)]) (I' := up2 (up2 (up2 (up2 (up2 (up2 I 3 8 (fq 0)) 3 9 (nI 1)) 1 2 (nI (tkK bt n (skp bt n (tkE bt n (skp bt n eq)))))) 1 3 (nI (skp bt n (tkE bt n (skp bt n eq))))) 1 4 (nI (tkE bt n (skp bt n (tkE bt n (skp bt n eq)))))) 1 5 v2) (J' := J) (G' := va_up G 11 fq) rfl ?_
            exact aw_zret rfl (by first | exact Or.inl rfl | exact Or.inr rfl) (oX5_readItem.dec rfl) (⟨true, _, _, _, _, _, rfl, rfl, rfl, fun k j h => (if_neg h).trans (if_neg h), fun k h1 h2 => va_up_ne _ _ h1, fun h => (by cases h), fun _ => ⟨(ltr bt n p, vs, skp bt n (tkE bt n (skp bt n eq))), itm_ok hm hvs2 h47, rfl, rfl, rfl, hv2, by rw [← hc]; exact dr_k hD rfl rfl (by rw [← hfq 0 (by decide)]; rfl) rfl rfl rfl rfl rfl rfl rfl⟩⟩)
          · refine aw_run oX5_readItem sxOk 1 (pc' := 51) (L' := [some (.ref 1), some (.ref 3), some (.int (nI 107))]) (st' := [.int (nI 0)]) (I' := up2 (up2 (up2 (up2 I 1 2 (nI (tkK bt n (skp bt n eq)))) 1 3 (nI (skp bt n eq))) 1 4 (nI (tkE bt n (skp bt n eq)))) 1 5 v1) (J' := J) (G' := va_up G 11 fq) rfl ?_
            exact aw_zret rfl (by first | exact Or.inl rfl | exact Or.inr rfl) (oX5_readItem.dec rfl) (⟨false, I, _, _, _, _, rfl, rfl, rfl, fun _ _ _ => rfl, fun k h1 _ => va_up_ne _ _ h1, fun _ => itm_3 hm hvs2 h47, fun h => (by cases h)⟩)
        · have hm : mayT (ltr bt n p) (pW D) (pP D) (pTl D) := by rw [← hc]; exact Or.inr (Or.inr ⟨rfl, htl⟩)
          refine aw_run oX5_readItem sxOk 1 (pc' := 37) (L' := [some (.ref 1), some (.ref 3), some (.int (nI 107))]) (st' := [.int (nI 0)]) (I' := up2 (up2 (up2 (up2 I 1 2 kq) 1 3 (nI pq)) 1 4 (nI eq)) 1 5 vq) (J' := J) (G' := va_up G 11 fq) rfl ?_
          exact aw_zret rfl (by first | exact Or.inl rfl | exact Or.inr rfl) (oX5_readItem.dec rfl) (⟨false, I, _, _, _, _, rfl, rfl, rfl, fun _ _ _ => rfl, fun k h1 _ => va_up_ne _ _ h1, fun _ => itm_f hm (by rw [← hc]; exact hF h33), fun h => (by cases h)⟩)
      · have hT : I 3 9 = nI 1 := by rw [hD.2.2.2.1, htl]; rfl
        refine aw_run oX5_readItem sxOk 2 (pc' := 19) (L' := [some (.ref 1), some (.ref 3), some (.int (nI 107))]) (st' := [.int (nI 107), .ref 3]) (I' := up2 (up2 (up2 (up2 I 1 2 (nI (tkK bt n p))) 1 3 (nI p)) 1 4 (nI (tkE bt n p))) 1 5 v0) (J' := J) (G' := G) rfl ?_
        refine aw_cV (st := []) 3 [.int (nI 107)] oX4_canTake k5_44 rfl rfl rfl rfl rfl rfl rfl rfl (oX5_readItem.dec rfl) (c_canTake_k1 (I := up2 (up2 (up2 (up2 I 1 2 (nI (tkK bt n p))) 1 3 (nI p)) 1 4 (nI (tkE bt n p))) 1 5 v0) (J := J) (G := G) hT) ?_
        refine aw_eqS (st := [.int (nI 0)]) rfl ?_
        refine aw_0eqN rfl (by omega) (oX5_readItem.dec rfl) (tgt := 36) rfl (fun h22 => ?_) (fun h22 => absurd h22 (by omega))
        refine aw_run oX5_readItem sxOk 1 (pc' := 37) (L' := [some (.ref 1), some (.ref 3), some (.int (nI 107))]) (st' := [.int (nI 0)]) (I' := up2 (up2 (up2 (up2 I 1 2 (nI (tkK bt n p))) 1 3 (nI p)) 1 4 (nI (tkE bt n p))) 1 5 v0) (J' := J) (G' := G) rfl ?_
        exact aw_zret rfl (by first | exact Or.inl rfl | exact Or.inr rfl) (oX5_readItem.dec rfl) (⟨false, I, _, _, _, _, rfl, rfl, rfl, fun _ _ _ => rfl, fun k h1 _ => rfl, fun _ => itm_no (by rw [← hc]; exact fun h => h.elim (fun q => absurd q.1 (by decide)) (fun h => h.elim (fun q => absurd q.1 (by decide)) (fun q => by have := q.2; rw [htl] at this; cases this))), fun h => (by cases h)⟩)
    have hcn : Op.lookupswitch.offset [(107, 64), (115, 50), (119, 35)] 77 (nI c).toInt = 77 := lkN77 c hcb h107 h115 h119
    refine aw_run oX5_readItem sxOk 2 (pc' := 19) (L' := [some (.ref 1), some (.ref 3), some (.int (nI c))]) (st' := [.int (nI c), .ref 3]) (I' := up2 (up2 (up2 (up2 I 1 2 (nI (tkK bt n p))) 1 3 (nI p)) 1 4 (nI (tkE bt n p))) 1 5 v0) (J' := J) (G' := G) rfl ?_
    refine aw_cV (st := []) 3 [.int (nI c)] oX4_canTake k5_44 rfl rfl rfl rfl rfl rfl rfl rfl (oX5_readItem.dec rfl) (c_canTake_no (I := up2 (up2 (up2 (up2 I 1 2 (nI (tkK bt n p))) 1 3 (nI p)) 1 4 (nI (tkE bt n p))) 1 5 v0) (J := J) (G := G) (c := c) hcn) ?_
    refine aw_eqS (st := [.int (nI 0)]) rfl ?_
    refine aw_0eqN rfl (by omega) (oX5_readItem.dec rfl) (tgt := 36) rfl (fun h22 => ?_) (fun h22 => absurd h22 (by omega))
    refine aw_run oX5_readItem sxOk 1 (pc' := 37) (L' := [some (.ref 1), some (.ref 3), some (.int (nI c))]) (st' := [.int (nI 0)]) (I' := up2 (up2 (up2 (up2 I 1 2 (nI (tkK bt n p))) 1 3 (nI p)) 1 4 (nI (tkE bt n p))) 1 5 v0) (J' := J) (G' := G) rfl ?_
    exact aw_zret rfl (by first | exact Or.inl rfl | exact Or.inr rfl) (oX5_readItem.dec rfl) (⟨false, I, _, _, _, _, rfl, rfl, rfl, fun _ _ _ => rfl, fun k h1 _ => rfl, fun _ => itm_no (by rw [← hc]; exact fun h => h.elim (fun q => h119 q.1) (fun h => h.elim (fun q => h115 q.1) (fun q => h107 q.1))), fun h => (by cases h)⟩)
  refine aw_run oX5_readItem sxOk 3 (pc' := 5) (L' := [some (.ref 1), some (.ref 3), none]) (st' := [.int (nI 1), .int (nI (tkK bt n p))]) (I' := up2 (up2 (up2 (up2 I 1 2 (nI (tkK bt n p))) 1 3 (nI p)) 1 4 (nI (tkE bt n p))) 1 5 v0) (J' := J) (G' := G) rfl ?_
  refine aw_neN rfl rfl (Nat.lt_of_le_of_lt tkK_le (by decide)) (by omega) (oX5_readItem.dec rfl) (tgt := 15) rfl (fun h5 => ?_) (fun h5 => ?_)
  · refine aw_run oX5_readItem sxOk 2 (pc' := 17) (L' := [some (.ref 1), some (.ref 3), some (.int (nI 0))]) (st' := []) (I' := up2 (up2 (up2 (up2 I 1 2 (nI (tkK bt n p))) 1 3 (nI p)) 1 4 (nI (tkE bt n p))) 1 5 v0) (J' := J) (G' := G) rfl ?_
    exact main _ 0 rfl (if_neg h5).symm (by decide)
  · refine aw_run oX5_readItem sxOk 4 (pc' := 17) (L' := [some (.ref 1), some (.ref 3), some (.int v0)]) (st' := []) (I' := up2 (up2 (up2 (up2 I 1 2 (nI (tkK bt n p))) 1 3 (nI p)) 1 4 (nI (tkE bt n p))) 1 5 v0) (J' := J) (G' := G) rfl ?_
    exact main _ _ (hv0 (Or.inl h5)) (if_pos h5).symm (tkV_b (hbt p (by have := tkK_lt (bt := bt) (n := n) (p := p) (by omega); omega)).2)
