set_option maxRecDepth 20000 in
theorem m_here_t {I : II} {J : JJ} {G : II} {bt : Nat → Nat} {n : Nat} (hbt : ∀ i, i < 180 → G 1 i &&& nI 255 = nI (bt i) ∧ bt i < 256) (hn : I 0 2 = nI n) (hn180 : n ≤ 180) {e : Nat} (ha : I 0 13 = nI e) (he : e < n) : AMet SM mX7_here [.ref 0] I J G (PE (some (.int (nI (bt e)))) I J G) := by
  refine amet_en oX7_here rfl rfl (L := [some (.ref 0)]) rfl ?_
  refine aw_run oX7_here smOk 4 (pc' := 8) (L' := [some (.ref 0)]) (st' := [.int (I 0 2), .int (I 0 13)]) (I' := I) (J' := J) (G' := G) rfl ?_
  refine aw_geN ha hn (by omega) (by omega) (oX7_here.dec rfl) (tgt := 27) rfl (fun h8 => absurd h8 (by omega)) (fun h8 => ?_)
  refine aw_run oX7_here smOk 4 (pc' := 19) (L' := [some (.ref 0)]) (st' := [.int (I 0 13), .ref 1]) (I' := I) (J' := J) (G' := G) rfl ?_
  refine aw_baN e smOk rfl ha (by omega) (oX7_here.dec rfl) ?_
  refine aw_run oX7_here smOk 3 (pc' := 28) (L' := [some (.ref 0)]) (st' := [.int ((G 1 e) &&& (nI 255))]) (I' := I) (J' := J) (G' := G) rfl ?_
  exact aw_iret rfl (oX7_here.dec rfl) (pe_i (hbt e (by omega)).1)
set_option maxRecDepth 20000 in
theorem m_here_f {I : II} {J : JJ} {G : II} {bt : Nat → Nat} {n : Nat} (hbt : ∀ i, i < 180 → G 1 i &&& nI 255 = nI (bt i) ∧ bt i < 256) (hn : I 0 2 = nI n) (hn180 : n ≤ 180) {e : Nat} (ha : I 0 13 = nI e) (he : e = n) : AMet SM mX7_here [.ref 0] I J G (PE (some (.int (-nI 1))) I J G) := by
  refine amet_en oX7_here rfl rfl (L := [some (.ref 0)]) rfl ?_
  refine aw_run oX7_here smOk 4 (pc' := 8) (L' := [some (.ref 0)]) (st' := [.int (I 0 2), .int (I 0 13)]) (I' := I) (J' := J) (G' := G) rfl ?_
  refine aw_geN ha hn (by omega) (by omega) (oX7_here.dec rfl) (tgt := 27) rfl (fun h8 => ?_) (fun h8 => absurd h8 (by omega))
  refine aw_run oX7_here smOk 1 (pc' := 28) (L' := [some (.ref 0)]) (st' := [.int (-nI 1)]) (I' := I) (J' := J) (G' := G) rfl ?_
  exact aw_iret rfl (oX7_here.dec rfl) pe_rfl
set_option maxRecDepth 20000 in
theorem m_step {I : II} {J : JJ} {G : II} {bt : Nat → Nat} {n : Nat} (hbt : ∀ i, i < 180 → G 1 i &&& nI 255 = nI (bt i) ∧ bt i < 256) (hn : I 0 2 = nI n) (hn180 : n ≤ 180) {s0 k0 v0 : Int32} {e0 : Nat} (he0 : e0 ≤ n) : AMet SM mX7_step [.ref 0] (up2 (up2 (up2 (up2 I 0 13 (nI e0)) 0 14 s0) 0 15 k0) 0 16 v0) J G (fun r I' J' G' => r = none ∧ J' = J ∧ G' = G ∧ I' = up2 (up2 (up2 (up2 I 0 13 (nI (msE bt n (skp bt n e0)))) 0 14 (nI (skp bt n e0))) 0 15 (nI (msK bt n (skp bt n e0)))) 0 16 (nI (msV bt n (skp bt n e0)))) := by
  refine amet_en oX7_step rfl rfl (L := [some (.ref 0), none]) rfl ?_
  have hPn : skp bt n e0 ≤ n := skp_n (by omega)
  have letl : ∀ (p : Nat), p = skp bt n e0 → p < n → isL (bt p) = true → ∀ (m e : Nat) (x : Int32), e + m = n → x = nI e → p ≤ e → spE (qL bt n) e = spE (qL bt n) p → AW SM mX7_step 63 [some (.ref 0), some (.int (nI (bt p)))] [] (up2 (up2 (up2 (up2 I 0 13 x) 0 14 (nI p)) 0 15 k0) 0 16 (nI 0)) J G (fun r I' J' G' => r = none ∧ J' = J ∧ G' = G ∧ I' = up2 (up2 (up2 (up2 I 0 13 (nI (msE bt n (skp bt n e0)))) 0 14 (nI (skp bt n e0))) 0 15 (nI (msK bt n (skp bt n e0)))) 0 16 (nI (msV bt n (skp bt n e0)))) := by
    intro p hpp hpn hil m
    have hbp := (hbt p (by omega)).2
    have hKp : ∀ q, spE (qL bt n) p = q → (q = p + 1 → msK bt n p = bt p) ∧ (q ≠ p + 1 → msK bt n p = 4) := fun q hq => ⟨fun h => (if_neg (by omega)).trans ((if_pos hil).trans (if_pos (by omega))), fun h => (if_neg (by omega)).trans ((if_pos hil).trans (if_neg (by omega)))⟩
    have hEp : msE bt n p = spE (qL bt n) p := (if_neg (by omega)).trans (if_pos hil)
    have hVp : msV bt n p = 0 := (if_neg (by omega)).trans (if_pos hil)
    induction m with
    | zero =>
      intro e x hsn hx hpe hee
      have hee2 : spE (qL bt n) p = e := by rw [← hee]; exact spE_f (by unfold qL; rw [decide_eq_false (by omega)]; rfl)
      refine aw_run oX7_step smOk 1 (pc' := 64) (L' := [some (.ref 0), some (.int (nI (bt p)))]) (st' := [.ref 0]) (I' := up2 (up2 (up2 (up2 I 0 13 x) 0 14 (nI p)) 0 15 k0) 0 16 (nI 0)) (J' := J) (G' := G) rfl ?_
      refine aw_cV (st := []) 0 [] oX7_here k7_71 rfl rfl rfl rfl rfl rfl rfl rfl (oX7_step.dec rfl) (m_here_f (I := up2 (up2 (up2 (up2 I 0 13 x) 0 14 (nI p)) 0 15 k0) 0 16 (nI 0)) (J := J) (G := G) (e := e) hbt hn (by omega) (hx) (by omega)) ?_
      refine aw_eqS (st := [.int (-nI 1)]) rfl ?_
      refine aw_run oX7_step smOk 2 (pc' := 71) (L' := [some (.ref 0), some (.int (nI (bt p)))]) (st' := [.int (nI 122), .int (nI 97), .int (-nI 1)]) (I' := up2 (up2 (up2 (up2 I 0 13 x) 0 14 (nI p)) 0 15 k0) 0 16 (nI 0)) (J' := J) (G' := G) rfl ?_
      refine aw_cS (st := []) [.int (-nI 1), .int (nI 97), .int (nI 122)] oX7_in k7_60 rfl rfl rfl rfl rfl (oX7_step.dec rfl) (m_inF (I := up2 (up2 (up2 (up2 I 0 13 x) 0 14 (nI p)) 0 15 k0) 0 16 (nI 0)) (J := J) (G := G) (by decide)) ?_
      refine aw_eqS (st := [.int (nI 0)]) rfl ?_
      refine aw_0eqN rfl (by omega) (oX7_step.dec rfl) (tgt := 90) rfl (fun h74 => ?_) (fun h74 => absurd h74 (by omega))
      refine aw_run oX7_step smOk 7 (pc' := 101) (L' := [some (.ref 0), some (.int (nI (bt p)))]) (st' := [.int (nI 1), .int (x - (nI p)), .ref 0]) (I' := up2 (up2 (up2 (up2 I 0 13 x) 0 14 (nI p)) 0 15 k0) 0 16 (nI 0)) (J' := J) (G' := G) rfl ?_
      refine aw_neN (subN hx rfl (by omega)) rfl (by omega) (by omega) (oX7_step.dec rfl) (tgt := 108) rfl (fun h101 => ?_) (fun h101 => ?_)
      · refine aw_run oX7_step smOk 3 (pc' := 253) (L' := [some (.ref 0), some (.int (nI (bt p)))]) (st' := []) (I' := up2 (up2 (up2 (up2 (up2 I 0 13 x) 0 14 (nI p)) 0 15 k0) 0 16 (nI 0)) 0 15 (nI 4)) (J' := J) (G' := G) rfl ?_
        refine aw_eqI (I' := up2 (up2 (up2 (up2 I 0 13 x) 0 14 (nI p)) 0 15 (nI 4)) 0 16 (nI 0)) (by rw [IM15]) ?_
        exact aw_vret rfl (oX7_step.dec rfl) (⟨rfl, rfl, rfl, by rw [hx, ← hpp, hEp, hVp, (hKp e hee2).2 (by omega), hee2]⟩)
      · refine aw_run oX7_step smOk 4 (pc' := 253) (L' := [some (.ref 0), some (.int (nI (bt p)))]) (st' := []) (I' := up2 (up2 (up2 (up2 (up2 I 0 13 x) 0 14 (nI p)) 0 15 k0) 0 16 (nI 0)) 0 15 (nI (bt p))) (J' := J) (G' := G) rfl ?_
        refine aw_eqI (I' := up2 (up2 (up2 (up2 I 0 13 x) 0 14 (nI p)) 0 15 (nI (bt p))) 0 16 (nI 0)) (by rw [IM15]) ?_
        exact aw_vret rfl (oX7_step.dec rfl) (⟨rfl, rfl, rfl, by rw [hx, ← hpp, hEp, hVp, (hKp e hee2).1 (by omega), hee2]⟩)
    | succ m ih =>
      intro e x hsn hx hpe hee
      refine aw_run oX7_step smOk 1 (pc' := 64) (L' := [some (.ref 0), some (.int (nI (bt p)))]) (st' := [.ref 0]) (I' := up2 (up2 (up2 (up2 I 0 13 x) 0 14 (nI p)) 0 15 k0) 0 16 (nI 0)) (J' := J) (G' := G) rfl ?_
      refine aw_cV (st := []) 0 [] oX7_here k7_71 rfl rfl rfl rfl rfl rfl rfl rfl (oX7_step.dec rfl) (m_here_t (I := up2 (up2 (up2 (up2 I 0 13 x) 0 14 (nI p)) 0 15 k0) 0 16 (nI 0)) (J := J) (G := G) (e := e) hbt hn (by omega) (hx) (by omega)) ?_
      refine aw_eqS (st := [.int (nI (bt e))]) rfl ?_
      refine aw_run oX7_step smOk 2 (pc' := 71) (L' := [some (.ref 0), some (.int (nI (bt p)))]) (st' := [.int (nI 122), .int (nI 97), .int (nI (bt e))]) (I' := up2 (up2 (up2 (up2 I 0 13 x) 0 14 (nI p)) 0 15 k0) 0 16 (nI 0)) (J' := J) (G' := G) rfl ?_
      refine aw_cS (st := []) [.int (nI (bt e)), .int (nI 97), .int (nI 122)] oX7_in k7_60 rfl rfl rfl rfl rfl (oX7_step.dec rfl) (m_inN (I := up2 (up2 (up2 (up2 I 0 13 x) 0 14 (nI p)) 0 15 k0) 0 16 (nI 0)) (J := J) (G := G) (by have := (hbt e (by omega)).2; omega) (by decide) (by decide)) ?_
      refine aw_eqS (st := [.int (b1 (decide (97 ≤ bt e ∧ bt e ≤ 122)))]) rfl ?_
      refine aw_0eqD (oX7_step.dec rfl) (tgt := 90) rfl (fun h74 => ?_) (fun h74 => ?_)
      · have hee2 : spE (qL bt n) p = e := by rw [← hee]; exact spE_f (by cases h : qL bt n e with | false => rfl | true => (unfold qL isL at h; simp at h; omega))
        refine aw_run oX7_step smOk 7 (pc' := 101) (L' := [some (.ref 0), some (.int (nI (bt p)))]) (st' := [.int (nI 1), .int (x - (nI p)), .ref 0]) (I' := up2 (up2 (up2 (up2 I 0 13 x) 0 14 (nI p)) 0 15 k0) 0 16 (nI 0)) (J' := J) (G' := G) rfl ?_
        refine aw_neN (subN hx rfl (by omega)) rfl (by omega) (by omega) (oX7_step.dec rfl) (tgt := 108) rfl (fun h101 => ?_) (fun h101 => ?_)
        · refine aw_run oX7_step smOk 3 (pc' := 253) (L' := [some (.ref 0), some (.int (nI (bt p)))]) (st' := []) (I' := up2 (up2 (up2 (up2 (up2 I 0 13 x) 0 14 (nI p)) 0 15 k0) 0 16 (nI 0)) 0 15 (nI 4)) (J' := J) (G' := G) rfl ?_
          refine aw_eqI (I' := up2 (up2 (up2 (up2 I 0 13 x) 0 14 (nI p)) 0 15 (nI 4)) 0 16 (nI 0)) (by rw [IM15]) ?_
          exact aw_vret rfl (oX7_step.dec rfl) (⟨rfl, rfl, rfl, by rw [hx, ← hpp, hEp, hVp, (hKp e hee2).2 (by omega), hee2]⟩)
        · refine aw_run oX7_step smOk 4 (pc' := 253) (L' := [some (.ref 0), some (.int (nI (bt p)))]) (st' := []) (I' := up2 (up2 (up2 (up2 (up2 I 0 13 x) 0 14 (nI p)) 0 15 k0) 0 16 (nI 0)) 0 15 (nI (bt p))) (J' := J) (G' := G) rfl ?_
          refine aw_eqI (I' := up2 (up2 (up2 (up2 I 0 13 x) 0 14 (nI p)) 0 15 (nI (bt p))) 0 16 (nI 0)) (by rw [IM15]) ?_
          exact aw_vret rfl (oX7_step.dec rfl) (⟨rfl, rfl, rfl, by rw [hx, ← hpp, hEp, hVp, (hKp e hee2).1 (by omega), hee2]⟩)
      · refine aw_run oX7_step smOk 7 (pc' := 63) (L' := [some (.ref 0), some (.int (nI (bt p)))]) (st' := []) (I' := up2 (up2 (up2 (up2 (up2 I 0 13 x) 0 14 (nI p)) 0 15 k0) 0 16 (nI 0)) 0 13 (x + (nI 1))) (J' := J) (G' := G) rfl ?_
        refine aw_eqI (I' := up2 (up2 (up2 (up2 I 0 13 (x + (nI 1))) 0 14 (nI p)) 0 15 k0) 0 16 (nI 0)) (by rw [IM13]) ?_
        exact ih (e + 1) _ (by omega) (addN hx rfl) (by omega) (by rw [spE_t (by unfold qL isL; simp; omega) (by omega)]; exact hee)
  have digl : ∀ (p : Nat), p = skp bt n e0 → p < n → ¬ isL (bt p) = true → isD (bt p) = true → ∀ (m e : Nat) (x y : Int32), e + m = n → x = nI e → p ≤ e → spE (qD bt n) e = spE (qD bt n) p → y = nI (nvM bt p (e - p)) → nvM bt p (e - p) < 1000 → AW SM mX7_step 126 [some (.ref 0), some (.int (nI (bt p)))] [] (up2 (up2 (up2 (up2 I 0 13 x) 0 14 (nI p)) 0 15 k0) 0 16 y) J G (fun r I' J' G' => r = none ∧ J' = J ∧ G' = G ∧ I' = up2 (up2 (up2 (up2 I 0 13 (nI (msE bt n (skp bt n e0)))) 0 14 (nI (skp bt n e0))) 0 15 (nI (msK bt n (skp bt n e0)))) 0 16 (nI (msV bt n (skp bt n e0)))) := by
    intro p hpp hpn hnl hil m
    have hbp := (hbt p (by omega)).2
    have hEp : msE bt n p = spE (qD bt n) p := (if_neg (by omega)).trans ((if_neg hnl).trans (if_pos hil))
    have hVp : msV bt n p = nvM bt p (spE (qD bt n) p - p) := (if_neg (by omega)).trans ((if_neg hnl).trans (if_pos hil))
    have hK4 : (99 < nvM bt p (spE (qD bt n) p - p) ∨ (bt p = 48 ∧ p + 1 < spE (qD bt n) p)) → msK bt n p = 4 := fun h => (if_neg (by omega)).trans ((if_neg hnl).trans ((if_pos hil).trans (if_pos h)))
    have hK1 : ¬ (99 < nvM bt p (spE (qD bt n) p - p) ∨ (bt p = 48 ∧ p + 1 < spE (qD bt n) p)) → msK bt n p = 1 := fun h => (if_neg (by omega)).trans ((if_neg hnl).trans ((if_pos hil).trans (if_neg h)))
    induction m with
    | zero =>
      intro e x y hsn hx hpe hee hy hyb
      have hee2 : spE (qD bt n) p = e := by rw [← hee]; exact spE_f (by unfold qD; rw [decide_eq_false (by omega)]; rfl)
      refine aw_run oX7_step smOk 1 (pc' := 127) (L' := [some (.ref 0), some (.int (nI (bt p)))]) (st' := [.ref 0]) (I' := up2 (up2 (up2 (up2 I 0 13 x) 0 14 (nI p)) 0 15 k0) 0 16 y) (J' := J) (G' := G) rfl ?_
      refine aw_cV (st := []) 0 [] oX7_here k7_71 rfl rfl rfl rfl rfl rfl rfl rfl (oX7_step.dec rfl) (m_here_f (I := up2 (up2 (up2 (up2 I 0 13 x) 0 14 (nI p)) 0 15 k0) 0 16 y) (J := J) (G := G) (e := e) hbt hn (by omega) (hx) (by omega)) ?_
      refine aw_eqS (st := [.int (-nI 1)]) rfl ?_
      refine aw_run oX7_step smOk 2 (pc' := 134) (L' := [some (.ref 0), some (.int (nI (bt p)))]) (st' := [.int (nI 57), .int (nI 48), .int (-nI 1)]) (I' := up2 (up2 (up2 (up2 I 0 13 x) 0 14 (nI p)) 0 15 k0) 0 16 y) (J' := J) (G' := G) rfl ?_
      refine aw_cS (st := []) [.int (-nI 1), .int (nI 48), .int (nI 57)] oX7_in k7_60 rfl rfl rfl rfl rfl (oX7_step.dec rfl) (m_inF (I := up2 (up2 (up2 (up2 I 0 13 x) 0 14 (nI p)) 0 15 k0) 0 16 y) (J := J) (G := G) (by decide)) ?_
      refine aw_eqS (st := [.int (nI 0)]) rfl ?_
      refine aw_0eqN rfl (by omega) (oX7_step.dec rfl) (tgt := 188) rfl (fun h137 => ?_) (fun h137 => absurd h137 (by omega))
      refine aw_run oX7_step smOk 4 (pc' := 195) (L' := [some (.ref 0), some (.int (nI (bt p)))]) (st' := [.int (nI 99), .int y, .ref 0]) (I' := up2 (up2 (up2 (up2 I 0 13 x) 0 14 (nI p)) 0 15 k0) 0 16 y) (J' := J) (G' := G) rfl ?_
      refine aw_gtN hy rfl (by omega) (by omega) (oX7_step.dec rfl) (tgt := 217) rfl (fun h195 => ?_) (fun h195 => ?_)
      · refine aw_run oX7_step smOk 4 (pc' := 253) (L' := [some (.ref 0), some (.int (nI (bt p)))]) (st' := []) (I' := up2 (up2 (up2 (up2 (up2 I 0 13 x) 0 14 (nI p)) 0 15 k0) 0 16 y) 0 15 (nI 4)) (J' := J) (G' := G) rfl ?_
        refine aw_eqI (I' := up2 (up2 (up2 (up2 I 0 13 x) 0 14 (nI p)) 0 15 (nI 4)) 0 16 y) (by rw [IM15]) ?_
        exact aw_vret rfl (oX7_step.dec rfl) (⟨rfl, rfl, rfl, by rw [hx, ← hpp, hEp, hVp, hee2, hK4 (by rw [hee2]; omega)]; exact congrArg _ hy⟩)
      · refine aw_run oX7_step smOk 2 (pc' := 201) (L' := [some (.ref 0), some (.int (nI (bt p)))]) (st' := [.int (nI 48), .int (nI (bt p)), .ref 0]) (I' := up2 (up2 (up2 (up2 I 0 13 x) 0 14 (nI p)) 0 15 k0) 0 16 y) (J' := J) (G' := G) rfl ?_
        refine aw_neN rfl rfl (by omega) (by omega) (oX7_step.dec rfl) (tgt := 221) rfl (fun h201 => ?_) (fun h201 => ?_)
        · refine aw_run oX7_step smOk 3 (pc' := 253) (L' := [some (.ref 0), some (.int (nI (bt p)))]) (st' := []) (I' := up2 (up2 (up2 (up2 (up2 I 0 13 x) 0 14 (nI p)) 0 15 k0) 0 16 y) 0 15 (nI 1)) (J' := J) (G' := G) rfl ?_
          refine aw_eqI (I' := up2 (up2 (up2 (up2 I 0 13 x) 0 14 (nI p)) 0 15 (nI 1)) 0 16 y) (by rw [IM15]) ?_
          exact aw_vret rfl (oX7_step.dec rfl) (⟨rfl, rfl, rfl, by rw [hx, ← hpp, hEp, hVp, hee2, hK1 (by rw [hee2]; omega)]; exact congrArg _ hy⟩)
        · refine aw_run oX7_step smOk 6 (pc' := 214) (L' := [some (.ref 0), some (.int (nI (bt p)))]) (st' := [.int (nI 1), .int (x - (nI p)), .ref 0]) (I' := up2 (up2 (up2 (up2 I 0 13 x) 0 14 (nI p)) 0 15 k0) 0 16 y) (J' := J) (G' := G) rfl ?_
          refine aw_leN (subN hx rfl (by omega)) rfl (by omega) (by omega) (oX7_step.dec rfl) (tgt := 221) rfl (fun h214 => ?_) (fun h214 => ?_)
          · refine aw_run oX7_step smOk 3 (pc' := 253) (L' := [some (.ref 0), some (.int (nI (bt p)))]) (st' := []) (I' := up2 (up2 (up2 (up2 (up2 I 0 13 x) 0 14 (nI p)) 0 15 k0) 0 16 y) 0 15 (nI 1)) (J' := J) (G' := G) rfl ?_
            refine aw_eqI (I' := up2 (up2 (up2 (up2 I 0 13 x) 0 14 (nI p)) 0 15 (nI 1)) 0 16 y) (by rw [IM15]) ?_
            exact aw_vret rfl (oX7_step.dec rfl) (⟨rfl, rfl, rfl, by rw [hx, ← hpp, hEp, hVp, hee2, hK1 (by rw [hee2]; omega)]; exact congrArg _ hy⟩)
          · refine aw_run oX7_step smOk 4 (pc' := 253) (L' := [some (.ref 0), some (.int (nI (bt p)))]) (st' := []) (I' := up2 (up2 (up2 (up2 (up2 I 0 13 x) 0 14 (nI p)) 0 15 k0) 0 16 y) 0 15 (nI 4)) (J' := J) (G' := G) rfl ?_
            refine aw_eqI (I' := up2 (up2 (up2 (up2 I 0 13 x) 0 14 (nI p)) 0 15 (nI 4)) 0 16 y) (by rw [IM15]) ?_
            exact aw_vret rfl (oX7_step.dec rfl) (⟨rfl, rfl, rfl, by rw [hx, ← hpp, hEp, hVp, hee2, hK4 (by rw [hee2]; omega)]; exact congrArg _ hy⟩)
    | succ m ih =>
      intro e x y hsn hx hpe hee hy hyb
      refine aw_run oX7_step smOk 1 (pc' := 127) (L' := [some (.ref 0), some (.int (nI (bt p)))]) (st' := [.ref 0]) (I' := up2 (up2 (up2 (up2 I 0 13 x) 0 14 (nI p)) 0 15 k0) 0 16 y) (J' := J) (G' := G) rfl ?_
      refine aw_cV (st := []) 0 [] oX7_here k7_71 rfl rfl rfl rfl rfl rfl rfl rfl (oX7_step.dec rfl) (m_here_t (I := up2 (up2 (up2 (up2 I 0 13 x) 0 14 (nI p)) 0 15 k0) 0 16 y) (J := J) (G := G) (e := e) hbt hn (by omega) (hx) (by omega)) ?_
      refine aw_eqS (st := [.int (nI (bt e))]) rfl ?_
      refine aw_run oX7_step smOk 2 (pc' := 134) (L' := [some (.ref 0), some (.int (nI (bt p)))]) (st' := [.int (nI 57), .int (nI 48), .int (nI (bt e))]) (I' := up2 (up2 (up2 (up2 I 0 13 x) 0 14 (nI p)) 0 15 k0) 0 16 y) (J' := J) (G' := G) rfl ?_
      refine aw_cS (st := []) [.int (nI (bt e)), .int (nI 48), .int (nI 57)] oX7_in k7_60 rfl rfl rfl rfl rfl (oX7_step.dec rfl) (m_inN (I := up2 (up2 (up2 (up2 I 0 13 x) 0 14 (nI p)) 0 15 k0) 0 16 y) (J := J) (G := G) (by have := (hbt e (by omega)).2; omega) (by decide) (by decide)) ?_
      refine aw_eqS (st := [.int (b1 (decide (48 ≤ bt e ∧ bt e ≤ 57)))]) rfl ?_
      refine aw_0eqD (oX7_step.dec rfl) (tgt := 188) rfl (fun h137 => ?_) (fun h137 => ?_)
      · have hee2 : spE (qD bt n) p = e := by rw [← hee]; exact spE_f (by cases h : qD bt n e with | false => rfl | true => (unfold qD isD at h; simp at h; omega))
        refine aw_run oX7_step smOk 4 (pc' := 195) (L' := [some (.ref 0), some (.int (nI (bt p)))]) (st' := [.int (nI 99), .int y, .ref 0]) (I' := up2 (up2 (up2 (up2 I 0 13 x) 0 14 (nI p)) 0 15 k0) 0 16 y) (J' := J) (G' := G) rfl ?_
        refine aw_gtN hy rfl (by omega) (by omega) (oX7_step.dec rfl) (tgt := 217) rfl (fun h195 => ?_) (fun h195 => ?_)
        · refine aw_run oX7_step smOk 4 (pc' := 253) (L' := [some (.ref 0), some (.int (nI (bt p)))]) (st' := []) (I' := up2 (up2 (up2 (up2 (up2 I 0 13 x) 0 14 (nI p)) 0 15 k0) 0 16 y) 0 15 (nI 4)) (J' := J) (G' := G) rfl ?_
          refine aw_eqI (I' := up2 (up2 (up2 (up2 I 0 13 x) 0 14 (nI p)) 0 15 (nI 4)) 0 16 y) (by rw [IM15]) ?_
          exact aw_vret rfl (oX7_step.dec rfl) (⟨rfl, rfl, rfl, by rw [hx, ← hpp, hEp, hVp, hee2, hK4 (by rw [hee2]; omega)]; exact congrArg _ hy⟩)
        · refine aw_run oX7_step smOk 2 (pc' := 201) (L' := [some (.ref 0), some (.int (nI (bt p)))]) (st' := [.int (nI 48), .int (nI (bt p)), .ref 0]) (I' := up2 (up2 (up2 (up2 I 0 13 x) 0 14 (nI p)) 0 15 k0) 0 16 y) (J' := J) (G' := G) rfl ?_
          refine aw_neN rfl rfl (by omega) (by omega) (oX7_step.dec rfl) (tgt := 221) rfl (fun h201 => ?_) (fun h201 => ?_)
          · refine aw_run oX7_step smOk 3 (pc' := 253) (L' := [some (.ref 0), some (.int (nI (bt p)))]) (st' := []) (I' := up2 (up2 (up2 (up2 (up2 I 0 13 x) 0 14 (nI p)) 0 15 k0) 0 16 y) 0 15 (nI 1)) (J' := J) (G' := G) rfl ?_
            refine aw_eqI (I' := up2 (up2 (up2 (up2 I 0 13 x) 0 14 (nI p)) 0 15 (nI 1)) 0 16 y) (by rw [IM15]) ?_
            exact aw_vret rfl (oX7_step.dec rfl) (⟨rfl, rfl, rfl, by rw [hx, ← hpp, hEp, hVp, hee2, hK1 (by rw [hee2]; omega)]; exact congrArg _ hy⟩)
          · refine aw_run oX7_step smOk 6 (pc' := 214) (L' := [some (.ref 0), some (.int (nI (bt p)))]) (st' := [.int (nI 1), .int (x - (nI p)), .ref 0]) (I' := up2 (up2 (up2 (up2 I 0 13 x) 0 14 (nI p)) 0 15 k0) 0 16 y) (J' := J) (G' := G) rfl ?_
            refine aw_leN (subN hx rfl (by omega)) rfl (by omega) (by omega) (oX7_step.dec rfl) (tgt := 221) rfl (fun h214 => ?_) (fun h214 => ?_)
            · refine aw_run oX7_step smOk 3 (pc' := 253) (L' := [some (.ref 0), some (.int (nI (bt p)))]) (st' := []) (I' := up2 (up2 (up2 (up2 (up2 I 0 13 x) 0 14 (nI p)) 0 15 k0) 0 16 y) 0 15 (nI 1)) (J' := J) (G' := G) rfl ?_
              refine aw_eqI (I' := up2 (up2 (up2 (up2 I 0 13 x) 0 14 (nI p)) 0 15 (nI 1)) 0 16 y) (by rw [IM15]) ?_
              exact aw_vret rfl (oX7_step.dec rfl) (⟨rfl, rfl, rfl, by rw [hx, ← hpp, hEp, hVp, hee2, hK1 (by rw [hee2]; omega)]; exact congrArg _ hy⟩)
            · refine aw_run oX7_step smOk 4 (pc' := 253) (L' := [some (.ref 0), some (.int (nI (bt p)))]) (st' := []) (I' := up2 (up2 (up2 (up2 (up2 I 0 13 x) 0 14 (nI p)) 0 15 k0) 0 16 y) 0 15 (nI 4)) (J' := J) (G' := G) rfl ?_
              refine aw_eqI (I' := up2 (up2 (up2 (up2 I 0 13 x) 0 14 (nI p)) 0 15 (nI 4)) 0 16 y) (by rw [IM15]) ?_
              exact aw_vret rfl (oX7_step.dec rfl) (⟨rfl, rfl, rfl, by rw [hx, ← hpp, hEp, hVp, hee2, hK4 (by rw [hee2]; omega)]; exact congrArg _ hy⟩)
      · refine aw_run oX7_step smOk 4 (pc' := 147) (L' := [some (.ref 0), some (.int (nI (bt p)))]) (st' := [.int (nI 99), .int y, .ref 0]) (I' := up2 (up2 (up2 (up2 I 0 13 x) 0 14 (nI p)) 0 15 k0) 0 16 y) (J' := J) (G' := G) rfl ?_
        refine aw_leN hy rfl (by omega) (by omega) (oX7_step.dec rfl) (tgt := 157) rfl (fun h147 => ?_) (fun h147 => ?_)
        · refine aw_run oX7_step smOk 5 (pc' := 165) (L' := [some (.ref 0), some (.int (nI (bt p)))]) (st' := [.ref 0, .int ((nI 10) * y), .ref 0]) (I' := up2 (up2 (up2 (up2 I 0 13 x) 0 14 (nI p)) 0 15 k0) 0 16 y) (J' := J) (G' := G) rfl ?_
          refine aw_cV (st := [.int ((nI 10) * y), .ref 0]) 0 [] oX7_here k7_71 rfl rfl rfl rfl rfl rfl rfl rfl (oX7_step.dec rfl) (m_here_t (I := up2 (up2 (up2 (up2 I 0 13 x) 0 14 (nI p)) 0 15 k0) 0 16 y) (J := J) (G := G) (e := e) hbt hn (by omega) (hx) (by omega)) ?_
          refine aw_eqS (st := [.int (nI (bt e)), .int ((nI 10) * y), .ref 0]) rfl ?_
          refine aw_run oX7_step smOk 11 (pc' := 126) (L' := [some (.ref 0), some (.int (nI (bt p)))]) (st' := []) (I' := up2 (up2 (up2 (up2 (up2 (up2 I 0 13 x) 0 14 (nI p)) 0 15 k0) 0 16 y) 0 16 ((((nI 10) * y) + (nI (bt e))) - (nI 48))) 0 13 (x + (nI 1))) (J' := J) (G' := G) rfl ?_
          refine aw_eqI (I' := up2 (up2 (up2 (up2 I 0 13 (x + (nI 1))) 0 14 (nI p)) 0 15 k0) 0 16 ((((nI 10) * y) + (nI (bt e))) - (nI 48))) (by rw [IM16, IM13]) ?_
          have e2 : nvM bt p (e + 1 - p) = if 99 < nvM bt p (e - p) then nvM bt p (e - p) else 10 * nvM bt p (e - p) + (bt e - 48) := by
            rw [show e + 1 - p = (e - p) + 1 by omega]
            show (if 99 < nvM bt p (e - p) then nvM bt p (e - p) else 10 * nvM bt p (e - p) + (bt (p + (e - p)) - 48)) = _
            rw [show p + (e - p) = e by omega]
          rw [if_neg (by omega)] at e2
          exact ih (e + 1) _ _ (by omega) (addN hx rfl) (by omega) (by rw [spE_t (by unfold qD isD; simp; omega) (by omega)]; exact hee) (by rw [e2]; exact (subN (addN (mulN rfl hy) rfl) rfl (by omega)).trans (by congr 1; omega)) (by omega)
        · refine aw_run oX7_step smOk 11 (pc' := 126) (L' := [some (.ref 0), some (.int (nI (bt p)))]) (st' := []) (I' := up2 (up2 (up2 (up2 (up2 (up2 I 0 13 x) 0 14 (nI p)) 0 15 k0) 0 16 y) 0 16 y) 0 13 (x + (nI 1))) (J' := J) (G' := G) rfl ?_
          refine aw_eqI (I' := up2 (up2 (up2 (up2 I 0 13 (x + (nI 1))) 0 14 (nI p)) 0 15 k0) 0 16 y) (by rw [IM16, IM13]) ?_
          have e2 : nvM bt p (e + 1 - p) = if 99 < nvM bt p (e - p) then nvM bt p (e - p) else 10 * nvM bt p (e - p) + (bt e - 48) := by
            rw [show e + 1 - p = (e - p) + 1 by omega]
            show (if 99 < nvM bt p (e - p) then nvM bt p (e - p) else 10 * nvM bt p (e - p) + (bt (p + (e - p)) - 48)) = _
            rw [show p + (e - p) = e by omega]
          rw [if_pos h147] at e2
          exact ih (e + 1) _ _ (by omega) (addN hx rfl) (by omega) (by rw [spE_t (by unfold qD isD; simp; omega) (by omega)]; exact hee) (by rw [e2]; exact hy) (by omega)
  have fin : ∀ (x : Int32) (p : Nat), x = nI p → p = skp bt n e0 → AW SM mX7_step 22 [some (.ref 0), none] [] (up2 (up2 (up2 (up2 I 0 13 x) 0 14 s0) 0 15 k0) 0 16 v0) J G (fun r I' J' G' => r = none ∧ J' = J ∧ G' = G ∧ I' = up2 (up2 (up2 (up2 I 0 13 (nI (msE bt n (skp bt n e0)))) 0 14 (nI (skp bt n e0))) 0 15 (nI (msK bt n (skp bt n e0)))) 0 16 (nI (msV bt n (skp bt n e0)))) := by
    intro x p hx hpp
    subst hx
    by_cases hpn : p < n
    · refine aw_run oX7_step smOk 8 (pc' := 36) (L' := [some (.ref 0), none]) (st' := [.ref 0]) (I' := up2 (up2 (up2 (up2 (up2 (up2 I 0 13 (nI p)) 0 14 s0) 0 15 k0) 0 16 v0) 0 14 (nI p)) 0 16 (nI 0)) (J' := J) (G' := G) rfl ?_
      refine aw_eqI (I' := up2 (up2 (up2 (up2 I 0 13 (nI p)) 0 14 (nI p)) 0 15 k0) 0 16 (nI 0)) (by rw [IM14, IM16]) ?_
      refine aw_cV (st := []) 0 [] oX7_here k7_71 rfl rfl rfl rfl rfl rfl rfl rfl (oX7_step.dec rfl) (m_here_t (I := up2 (up2 (up2 (up2 I 0 13 (nI p)) 0 14 (nI p)) 0 15 k0) 0 16 (nI 0)) (J := J) (G := G) (e := p) hbt hn (by omega) (rfl) (by omega)) ?_
      refine aw_eqS (st := [.int (nI (bt p))]) rfl ?_
      refine aw_run oX7_step smOk 2 (pc' := 41) (L' := [some (.ref 0), some (.int (nI (bt p)))]) (st' := [.int (nI (bt p))]) (I' := up2 (up2 (up2 (up2 I 0 13 (nI p)) 0 14 (nI p)) 0 15 k0) 0 16 (nI 0)) (J' := J) (G' := G) rfl ?_
      refine aw_0geN rfl (by have := (hbt p (by omega)).2; omega) (oX7_step.dec rfl) (tgt := 52) rfl ?_
      refine aw_run oX7_step smOk 3 (pc' := 57) (L' := [some (.ref 0), some (.int (nI (bt p)))]) (st' := [.int (nI 122), .int (nI 97), .int (nI (bt p))]) (I' := up2 (up2 (up2 (up2 I 0 13 (nI p)) 0 14 (nI p)) 0 15 k0) 0 16 (nI 0)) (J' := J) (G' := G) rfl ?_
      refine aw_cS (st := []) [.int (nI (bt p)), .int (nI 97), .int (nI 122)] oX7_in k7_60 rfl rfl rfl rfl rfl (oX7_step.dec rfl) (m_inN (I := up2 (up2 (up2 (up2 I 0 13 (nI p)) 0 14 (nI p)) 0 15 k0) 0 16 (nI 0)) (J := J) (G := G) (by have := (hbt p (by omega)).2; omega) (by decide) (by decide)) ?_
      refine aw_eqS (st := [.int (b1 (decide (97 ≤ bt p ∧ bt p ≤ 122)))]) rfl ?_
      refine aw_0eqD (oX7_step.dec rfl) (tgt := 115) rfl (fun h60 => ?_) (fun h60 => ?_)
      · have hnl : ¬ isL (bt p) = true := by unfold isL; simp; omega
        refine aw_run oX7_step smOk 3 (pc' := 120) (L' := [some (.ref 0), some (.int (nI (bt p)))]) (st' := [.int (nI 57), .int (nI 48), .int (nI (bt p))]) (I' := up2 (up2 (up2 (up2 I 0 13 (nI p)) 0 14 (nI p)) 0 15 k0) 0 16 (nI 0)) (J' := J) (G' := G) rfl ?_
        refine aw_cS (st := []) [.int (nI (bt p)), .int (nI 48), .int (nI 57)] oX7_in k7_60 rfl rfl rfl rfl rfl (oX7_step.dec rfl) (m_inN (I := up2 (up2 (up2 (up2 I 0 13 (nI p)) 0 14 (nI p)) 0 15 k0) 0 16 (nI 0)) (J := J) (G := G) (by have := (hbt p (by omega)).2; omega) (by decide) (by decide)) ?_
        refine aw_eqS (st := [.int (b1 (decide (48 ≤ bt p ∧ bt p ≤ 57)))]) rfl ?_
        refine aw_0eqD (oX7_step.dec rfl) (tgt := 228) rfl (fun h123 => ?_) (fun h123 => ?_)
        · have hnd : ¬ isD (bt p) = true := by unfold isD; simp; omega
          refine aw_run oX7_step smOk 9 (pc' := 242) (L' := [some (.ref 0), some (.int (nI (bt p)))]) (st' := [.int (nI 59), .int (nI (bt p)), .ref 0]) (I' := up2 (up2 (up2 (up2 (up2 I 0 13 (nI p)) 0 14 (nI p)) 0 15 k0) 0 16 (nI 0)) 0 13 ((nI p) + (nI 1))) (J' := J) (G' := G) rfl ?_
          refine aw_eqI (I' := up2 (up2 (up2 (up2 I 0 13 ((nI p) + (nI 1))) 0 14 (nI p)) 0 15 k0) 0 16 (nI 0)) (by rw [IM13]) ?_
          refine aw_neN rfl rfl (by have := (hbt p (by omega)).2; omega) (by omega) (oX7_step.dec rfl) (tgt := 249) rfl (fun h242 => ?_) (fun h242 => ?_)
          · refine aw_run oX7_step smOk 2 (pc' := 253) (L' := [some (.ref 0), some (.int (nI (bt p)))]) (st' := []) (I' := up2 (up2 (up2 (up2 (up2 I 0 13 ((nI p) + (nI 1))) 0 14 (nI p)) 0 15 k0) 0 16 (nI 0)) 0 15 (nI 4)) (J' := J) (G' := G) rfl ?_
            refine aw_eqI (I' := up2 (up2 (up2 (up2 I 0 13 ((nI p) + (nI 1))) 0 14 (nI p)) 0 15 (nI 4)) 0 16 (nI 0)) (by rw [IM15]) ?_
            exact aw_vret rfl (oX7_step.dec rfl) (⟨rfl, rfl, rfl, by rw [← hpp, show msE bt n p = p + 1 from (if_neg (by omega)).trans ((if_neg hnl).trans (if_neg hnd)), show msK bt n p = 4 from (if_neg (by omega)).trans ((if_neg hnl).trans ((if_neg hnd).trans (if_neg h242))), show msV bt n p = 0 from (if_neg (by omega)).trans ((if_neg hnl).trans (if_neg hnd)), show nI p + nI 1 = nI (p + 1) from addN rfl rfl]⟩)
          · refine aw_run oX7_step smOk 3 (pc' := 253) (L' := [some (.ref 0), some (.int (nI (bt p)))]) (st' := []) (I' := up2 (up2 (up2 (up2 (up2 I 0 13 ((nI p) + (nI 1))) 0 14 (nI p)) 0 15 k0) 0 16 (nI 0)) 0 15 (nI 2)) (J' := J) (G' := G) rfl ?_
            refine aw_eqI (I' := up2 (up2 (up2 (up2 I 0 13 ((nI p) + (nI 1))) 0 14 (nI p)) 0 15 (nI 2)) 0 16 (nI 0)) (by rw [IM15]) ?_
            exact aw_vret rfl (oX7_step.dec rfl) (⟨rfl, rfl, rfl, by rw [← hpp, show msE bt n p = p + 1 from (if_neg (by omega)).trans ((if_neg hnl).trans (if_neg hnd)), show msK bt n p = 2 from (if_neg (by omega)).trans ((if_neg hnl).trans ((if_neg hnd).trans (if_pos h242))), show msV bt n p = 0 from (if_neg (by omega)).trans ((if_neg hnl).trans (if_neg hnd)), show nI p + nI 1 = nI (p + 1) from addN rfl rfl]⟩)
        · exact digl p hpp hpn hnl (by unfold isD; simp; omega) (n - p) p _ _ (by omega) rfl (by omega) rfl (by rw [Nat.sub_self]; rfl) (by rw [Nat.sub_self]; show (0 : Nat) < 1000; decide)
      · exact letl p hpp hpn (by unfold isL; simp; omega) (n - p) p _ (by omega) rfl (by omega) rfl
    · refine aw_run oX7_step smOk 8 (pc' := 36) (L' := [some (.ref 0), none]) (st' := [.ref 0]) (I' := up2 (up2 (up2 (up2 (up2 (up2 I 0 13 (nI p)) 0 14 s0) 0 15 k0) 0 16 v0) 0 14 (nI p)) 0 16 (nI 0)) (J' := J) (G' := G) rfl ?_
      refine aw_eqI (I' := up2 (up2 (up2 (up2 I 0 13 (nI p)) 0 14 (nI p)) 0 15 k0) 0 16 (nI 0)) (by rw [IM14, IM16]) ?_
      refine aw_cV (st := []) 0 [] oX7_here k7_71 rfl rfl rfl rfl rfl rfl rfl rfl (oX7_step.dec rfl) (m_here_f (I := up2 (up2 (up2 (up2 I 0 13 (nI p)) 0 14 (nI p)) 0 15 k0) 0 16 (nI 0)) (J := J) (G := G) (e := p) hbt hn (by omega) (rfl) (by omega)) ?_
      refine aw_eqS (st := [.int (-nI 1)]) rfl ?_
      refine aw_run oX7_step smOk 2 (pc' := 41) (L' := [some (.ref 0), some (.int (-nI 1))]) (st' := [.int (-nI 1)]) (I' := up2 (up2 (up2 (up2 I 0 13 (nI p)) 0 14 (nI p)) 0 15 k0) 0 16 (nI 0)) (J' := J) (G' := G) rfl ?_
      refine aw_if_ge (oX7_step.dec rfl) (tgt := 52) rfl (fun h41 => absurd h41 (by decide)) (fun h41 => ?_)
      refine aw_run oX7_step smOk 4 (pc' := 253) (L' := [some (.ref 0), some (.int (-nI 1))]) (st' := []) (I' := up2 (up2 (up2 (up2 (up2 I 0 13 (nI p)) 0 14 (nI p)) 0 15 k0) 0 16 (nI 0)) 0 15 (nI 3)) (J' := J) (G' := G) rfl ?_
      refine aw_eqI (I' := up2 (up2 (up2 (up2 I 0 13 (nI p)) 0 14 (nI p)) 0 15 (nI 3)) 0 16 (nI 0)) (by rw [IM15]) ?_
      exact aw_vret rfl (oX7_step.dec rfl) (⟨rfl, rfl, rfl, by rw [← hpp, show msE bt n p = p from if_pos (by omega), show msK bt n p = 3 from if_pos (by omega), show msV bt n p = 0 from if_pos (by omega)]⟩)
  have loop : ∀ (m e : Nat) (x : Int32), (e + m = n) → (x = nI e) → (skp bt n e = skp bt n e0) → AW SM mX7_step 0 [some (.ref 0), none] [] (up2 (up2 (up2 (up2 I 0 13 x) 0 14 s0) 0 15 k0) 0 16 v0) J G (fun r I' J' G' => r = none ∧ J' = J ∧ G' = G ∧ I' = up2 (up2 (up2 (up2 I 0 13 (nI (msE bt n (skp bt n e0)))) 0 14 (nI (skp bt n e0))) 0 15 (nI (msK bt n (skp bt n e0)))) 0 16 (nI (msV bt n (skp bt n e0)))) := by
    intro m
    induction m with
    | zero =>
      intro e x hsn hx hee
      refine aw_run oX7_step smOk 1 (pc' := 1) (L' := [some (.ref 0), none]) (st' := [.ref 0]) (I' := up2 (up2 (up2 (up2 I 0 13 x) 0 14 s0) 0 15 k0) 0 16 v0) (J' := J) (G' := G) rfl ?_
      refine aw_cV (st := []) 0 [] oX7_here k7_71 rfl rfl rfl rfl rfl rfl rfl rfl (oX7_step.dec rfl) (m_here_f (I := up2 (up2 (up2 (up2 I 0 13 x) 0 14 s0) 0 15 k0) 0 16 v0) (J := J) (G := G) (e := e) hbt hn (by omega) (hx) (by omega)) ?_
      refine aw_eqS (st := [.int (-nI 1)]) rfl ?_
      refine aw_run oX7_step smOk 1 (pc' := 6) (L' := [some (.ref 0), none]) (st' := [.int (nI 32), .int (-nI 1)]) (I' := up2 (up2 (up2 (up2 I 0 13 x) 0 14 s0) 0 15 k0) 0 16 v0) (J' := J) (G' := G) rfl ?_
      refine aw_icmp_ne (oX7_step.dec rfl) (tgt := 22) rfl (fun h6 => ?_) (fun h6 => absurd h6 (by decide))
      exact fin _ e hx (by rw [← hee]; exact (spE_f (by unfold qS; rw [decide_eq_false (by omega)]; rfl)).symm)
    | succ m ih =>
      intro e x hsn hx hee
      refine aw_run oX7_step smOk 1 (pc' := 1) (L' := [some (.ref 0), none]) (st' := [.ref 0]) (I' := up2 (up2 (up2 (up2 I 0 13 x) 0 14 s0) 0 15 k0) 0 16 v0) (J' := J) (G' := G) rfl ?_
      refine aw_cV (st := []) 0 [] oX7_here k7_71 rfl rfl rfl rfl rfl rfl rfl rfl (oX7_step.dec rfl) (m_here_t (I := up2 (up2 (up2 (up2 I 0 13 x) 0 14 s0) 0 15 k0) 0 16 v0) (J := J) (G := G) (e := e) hbt hn (by omega) (hx) (by omega)) ?_
      refine aw_eqS (st := [.int (nI (bt e))]) rfl ?_
      refine aw_run oX7_step smOk 1 (pc' := 6) (L' := [some (.ref 0), none]) (st' := [.int (nI 32), .int (nI (bt e))]) (I' := up2 (up2 (up2 (up2 I 0 13 x) 0 14 s0) 0 15 k0) 0 16 v0) (J' := J) (G' := G) rfl ?_
      refine aw_neN rfl rfl (by have := (hbt e (by omega)).2; omega) (by omega) (oX7_step.dec rfl) (tgt := 22) rfl (fun h6 => ?_) (fun h6 => ?_)
      · exact fin _ e hx (by rw [← hee]; exact (spE_f (by unfold qS; rw [decide_eq_false h6, Bool.and_false])).symm)
      · refine aw_run oX7_step smOk 7 (pc' := 0) (L' := [some (.ref 0), none]) (st' := []) (I' := up2 (up2 (up2 (up2 (up2 I 0 13 x) 0 14 s0) 0 15 k0) 0 16 v0) 0 13 (x + (nI 1))) (J' := J) (G' := G) rfl ?_
        refine aw_eqI (I' := up2 (up2 (up2 (up2 I 0 13 (x + (nI 1))) 0 14 s0) 0 15 k0) 0 16 v0) (by rw [IM13]) ?_
        exact ih (e + 1) _ (by omega) (addN hx rfl) (by rw [show skp bt n (e + 1) = skp bt n e from spE_t (by unfold qS; rw [decide_eq_true (show e < n by omega), decide_eq_true h6]; rfl) (by omega)]; exact hee)
  exact loop (n - e0) e0 _ (by omega) rfl rfl
