/-! both: images, game, odds, plan, late, season -/
section BOTHE
variable {I : II} {J : JJ} {G : II} {Im : II} {Jm : JJ} {Gm : II}
theorem lg_copy {Wk P K : Nat} {f p f1 p1 : Nat → Int32} (hP : P ≤ 5) (h : lgOk Wk P K f p) : lgOk Wk P K (va_cpy f f1 0 0 18) (va_cpy p p1 0 0 180) := by
  obtain ⟨h1, h2, h3⟩ := h
  refine ⟨h1, rowOk_c hP (cpy0 (by omega)) (fun j _ hj => cpy0 hj) h2, fun k hk => ?_⟩
  exact rowOk_c hP (cpy0 (by omega)) (fun j _ hj => cpy0 (by omega)) (h3 k hk)
theorem cpy_in {f g : Nat → Int32} {sp dp n j : Nat} (hj : j < n) : va_cpy f g sp dp n (dp + j) = f (sp + j) := by
  unfold va_cpy
  rw [if_pos ⟨by omega, by omega⟩]
  exact congrArg _ (by omega)
theorem cpy_out {f g : Nat → Int32} {sp dp n j : Nat} (hj : j < dp ∨ dp + n ≤ j) : va_cpy f g sp dp n j = g j := by
  unfold va_cpy
  rw [if_neg (by omega)]
theorem b_keep (hR : Rl I J G Im Jm Gm) (x : Int32) : Both isI mX6_keep mX7_keep [.int x] I J G Im Jm Gm := by
  obtain ⟨Wk, P, hT, hS, hJ, ⟨K, l1, l2, l3⟩, h1, h2⟩ := id hR
  have s2 := hS.2.1
  have hK10 := l2.1
  rcases idxc x 2 with hx | ⟨k, hk, rfl⟩
  · exact both_pe (c_keep_bad hx) (m_keep_bad hx) rfl hR
  · match k, hk with
    | 0, _ =>
      have kin : ∀ j, j < 199 → va_cpy (Gm 11) (Gm 11) 0 199 199 (199 + j) = Gm 11 j := fun j hj => (cpy_in hj).trans (congrArg _ (Nat.zero_add j))
      have kout : ∀ j, j < 199 → va_cpy (Gm 11) (Gm 11) 0 199 199 j = Gm 11 j := fun j hj => cpy_out (by omega)
      exact both_pe c_keep_0 m_keep_0 (l3.1 0 (by omega)) ⟨Wk, P, hT, hS, hJ, ⟨K, l1, l2, ⟨fun j hj => (kout j (by omega)).trans (l3.1 j hj), (kout 18 (by omega)).trans l3.2.1, fun j hj => (kout (19 + j) (by omega)).trans (l3.2.2 j hj)⟩⟩, ⟨true, rfl, rfl, fun _ => ⟨K, l1, ⟨fun j hj => (kin j (by omega)).trans ((l3.1 j hj).trans (cpy0 hj).symm), (kin 18 (by omega)).trans l3.2.1, fun j hj => (kin (19 + j) (by omega)).trans ((l3.2.2 j hj).trans (cpy0 (by omega)).symm)⟩, lg_copy s2 l2⟩⟩, RK_c h2 (fun j hj => cpy_out (by omega))⟩
    | 1, _ =>
      have kin : ∀ j, j < 199 → va_cpy (Gm 11) (Gm 11) 0 398 199 (398 + j) = Gm 11 j := fun j hj => (cpy_in hj).trans (congrArg _ (Nat.zero_add j))
      have kout : ∀ j, j < 199 → va_cpy (Gm 11) (Gm 11) 0 398 199 j = Gm 11 j := fun j hj => cpy_out (by omega)
      exact both_pe c_keep_1 m_keep_1 (l3.1 0 (by omega)) ⟨Wk, P, hT, hS, hJ, ⟨K, l1, l2, ⟨fun j hj => (kout j (by omega)).trans (l3.1 j hj), (kout 18 (by omega)).trans l3.2.1, fun j hj => (kout (19 + j) (by omega)).trans (l3.2.2 j hj)⟩⟩, RK_c h1 (fun j hj => cpy_out (by omega)), ⟨true, rfl, rfl, fun _ => ⟨K, l1, ⟨fun j hj => (kin j (by omega)).trans ((l3.1 j hj).trans (cpy0 hj).symm), (kin 18 (by omega)).trans l3.2.1, fun j hj => (kin (19 + j) (by omega)).trans ((l3.2.2 j hj).trans (cpy0 (by omega)).symm)⟩, lg_copy s2 l2⟩⟩⟩
theorem b_back (hR : Rl I J G Im Jm Gm) (x : Int32) : Both isI mX6_back mX7_back [.int x] I J G Im Jm Gm := by
  obtain ⟨Wk, P, hT, hS, hJ, ⟨K, l1, l2, l3⟩, h1, h2⟩ := id hR
  have s2 := hS.2.1
  have hK10 := l2.1
  rcases idxc x 2 with hx | ⟨k, hk, rfl⟩
  · exact both_pe (c_back_bad hx) (m_back_bad hx) rfl hR
  · match k, hk with
    | 0, _ =>
      obtain ⟨b, a2, a3, a5⟩ := id h1
      cases b with
      | false => exact both_pe (c_back_no_0 a2) (m_back_no_0 a3) rfl hR
      | true =>
        obtain ⟨K1, a1, ⟨q1, q2, q3⟩, a6⟩ := a5 rfl
        have hK1 := a6.1
        refine both_pe (c_back_0 a2) (m_back_0 a3) ((q1 0 (by omega)).trans (cpy0 (by omega)).symm) ⟨Wk, P, hT, hS, hJ, ⟨K1, a1, lg_copy s2 a6, ⟨fun j hj => ?_, ?_, fun j hj => ?_⟩⟩, RK_c h1 (fun j hj => cpy_out (by omega)), RK_c h2 (fun j hj => cpy_out (by omega))⟩
        · show va_cpy (Gm 11) (Gm 11) 199 0 199 j = _
          rw [show j = 0 + j from (Nat.zero_add j).symm, cpy_in (by omega), Nat.zero_add]
          exact (q1 j hj).trans (cpy0 hj).symm
        · show va_cpy (Gm 11) (Gm 11) 199 0 199 (0 + 18) = _
          exact (cpy_in (by omega)).trans q2
        · show va_cpy (Gm 11) (Gm 11) 199 0 199 (19 + j) = _
          rw [show 19 + j = 0 + (19 + j) from (Nat.zero_add _).symm, cpy_in (by omega)]
          exact (q3 j hj).trans (cpy0 (by omega)).symm
    | 1, _ =>
      obtain ⟨b, a2, a3, a5⟩ := id h2
      cases b with
      | false => exact both_pe (c_back_no_1 a2) (m_back_no_1 a3) rfl hR
      | true =>
        obtain ⟨K1, a1, ⟨q1, q2, q3⟩, a6⟩ := a5 rfl
        have hK1 := a6.1
        refine both_pe (c_back_1 a2) (m_back_1 a3) ((q1 0 (by omega)).trans (cpy0 (by omega)).symm) ⟨Wk, P, hT, hS, hJ, ⟨K1, a1, lg_copy s2 a6, ⟨fun j hj => ?_, ?_, fun j hj => ?_⟩⟩, RK_c h1 (fun j hj => cpy_out (by omega)), RK_c h2 (fun j hj => cpy_out (by omega))⟩
        · show va_cpy (Gm 11) (Gm 11) 398 0 199 j = _
          rw [show j = 0 + j from (Nat.zero_add j).symm, cpy_in (by omega), Nat.zero_add]
          exact (q1 j hj).trans (cpy0 hj).symm
        · show va_cpy (Gm 11) (Gm 11) 398 0 199 (0 + 18) = _
          exact (cpy_in (by omega)).trans q2
        · show va_cpy (Gm 11) (Gm 11) 398 0 199 (19 + j) = _
          rw [show 19 + j = 0 + (19 + j) from (Nat.zero_add _).symm, cpy_in (by omega)]
          exact (q3 j hj).trans (cpy0 (by omega)).symm
theorem b_game (hR : Rl I J G Im Jm Gm) (x y u v : Int32) : Both isI mX6_game mX7_game [.int x, .int y, .int u, .int v] I J G Im Jm Gm := by
  obtain ⟨Wk, P, hT, hS, hJ, hL, h1, h2⟩ := id hR
  obtain ⟨s1, s2, s3, s4, s5, s6, s7⟩ := id hS
  obtain ⟨K, l1, l2, l3⟩ := id hL
  rcases idxc x (2 ^ P) with hx | ⟨σ, hσ, rfl⟩
  · exact both_pe (c_game_bad1 s4.1 s2 hx) (m_game_bad1 s4.2 s2 hx) rfl hR
  · rcases idxc y Wk with hy | ⟨a, ha, rfl⟩
    · exact both_pe (c_game_bad2 s4.1 s2 s3.1 s1 hσ hy) (m_game_bad2 s4.2 s2 s3.2 s1 hσ hy) rfl hR
    · rcases idxc u Wk with hu | ⟨b, hb, rfl⟩
      · exact both_pe (c_game_bad3 s4.1 s2 s3.1 s1 hσ ha hu) (m_game_bad3 s4.2 s2 s3.2 s1 hσ ha hu) rfl hR
      · by_cases hab : a = b
        · subst hab
          exact both_pe (c_game_bad4 s4.1 s2 s3.1 s1 hσ ha) (m_game_bad4 s4.2 s2 s3.2 s1 hσ ha) rfl hR
        · rcases idxc v 2 with hv | ⟨k, hk, rfl⟩
          · exact both_pe (c_game_bad5 s4.1 s2 s3.1 s1 hσ ha hb hab hv) (m_game_bad5 s4.2 s2 s3.2 s1 hσ ha hb hab hv) rfl hR
          · obtain ⟨⟨τa, ta, ea⟩, ma, pa⟩ := s6 a ha
            obtain ⟨⟨τb, tb, eb⟩, mb, pb⟩ := s6 b hb
            obtain ⟨α, A, e1, e2, e3, e4⟩ := wor_nat (σ := σ) (g := G 16) (pir := G 13 a) s2 l2.2.1 ta ea
            obtain ⟨β, B, f1, f2, f3, f4⟩ := wor_nat (σ := σ) (g := G 16) (pir := G 13 b) s2 l2.2.1 tb eb
            have hs : ∀ s, s < 5 → sil (Gm 11) s = sil (G 24) s := fun s hs => sil_c l3.1 hs
            have hg : ∀ s, s < P → Gm 8 s = G 16 s := fun s hs => (s7 s hs).1
            have eS : sumS (sil (Gm 11)) σ P = sumS (sil (G 24)) σ P := sumC_c P (fun j hj => hs j (by omega)) (fun _ _ => rfl)
            have w1 := (wor_c (σ := σ) s2 hs hg pa ma).trans e1
            have w2 := (wor_c (σ := σ) s2 hs hg pb mb).trans f1
            have w3 : sumS (sil (Gm 11)) σ P * (nI 10 - Gm 3 a) = nI A := by rw [eS, ma]; exact e2
            have w4 : sumS (sil (Gm 11)) σ P * (nI 10 - Gm 3 b) = nI B := by rw [eS, mb]; exact f2
            match k, hk with
            | 0, _ => exact both_pe (c_game_0 s4.1 s2 s3.1 s1 hσ ha hb hab (sil_pos l2.2.1) e1 f1 e2 f2 e3 f3 e4 f4) (m_game_0 s4.2 s2 s3.2 s1 hσ ha hb hab w1 w2 w3 w4 e3 f3 e4 f4) rfl ⟨Wk, P, hT, hS, hJ, hL, h1, h2⟩
            | 1, _ => exact both_pe (c_game_1 s4.1 s2 s3.1 s1 hσ ha hb hab (sil_pos l2.2.1) e1 f1 e2 f2 e3 f3 e4 f4) (m_game_1 s4.2 s2 s3.2 s1 hσ ha hb hab w1 w2 w3 w4 e3 f3 e4 f4) rfl ⟨Wk, P, hT, hS, hJ, hL, h1, h2⟩
theorem b_odds (hR : Rl I J G Im Jm Gm) (x y u v : Int32) : Both isI mX6_odds mX7_odds [.int x, .int y, .int u, .int v] I J G Im Jm Gm := by
  obtain ⟨Wk, P, hT, hS, hJ, hL, h1, h2⟩ := id hR
  obtain ⟨s1, s2, s3, s4, s5, s6, s7⟩ := id hS
  obtain ⟨K, l1, l2, l3⟩ := id hL
  rcases idxc x (2 ^ P) with hx | ⟨σ, hσ, rfl⟩
  · exact both_pe (c_odds_bad1 s4.1 s2 hx) (m_odds_bad1 s4.2 s2 hx) rfl hR
  · by_cases hσ0 : σ = 0
    · subst hσ0; exact both_pe c_odds_bad0 (m_odds_bad0 s4.2 s2) rfl hR
    · rcases idxc y Wk with hy | ⟨w, hw, rfl⟩
      · exact both_pe (c_odds_bad2 s4.1 s2 s3.1 s1 hσ hσ0 hy) (m_odds_bad2 s4.2 s2 s3.2 s1 hσ hσ0 hy) rfl hR
      · rcases idxc u 6 with hu | ⟨k, hk, rfl⟩
        · exact both_pe (c_odds_bad3 s4.1 s2 s3.1 s1 hσ hσ0 hw hu) (m_odds_bad3 s4.2 s2 s3.2 s1 hσ hσ0 hw hu) rfl hR
        · rcases idxc v 2 with hv | ⟨q, hq, rfl⟩
          · exact both_pe (c_odds_bad4 s4.1 s2 s3.1 s1 hσ hσ0 hw (by omega) hv) (m_odds_bad4 s4.2 s2 s3.2 s1 hσ hσ0 hw (by omega) hv) rfl hR
          · obtain ⟨⟨τ, tt, et⟩, mt, pt⟩ := s6 w hw
            have ek : tak (Gm 11) (Gm 8) (Gm 4 w) P σ = tak (G 24) (G 16) (G 13 w) P σ := tak_c s2 (fun s hs => sil_c l3.1 hs) (fun s hs => (s7 s hs).1) pt
            have eo := odds_eq (σ := σ) (P := P) (τ := τ) (k := k) (o := tak (G 24) (G 16) (G 13 w) P σ) hσ s2 tt (by omega) (fun r h => (tak_lt h).1)
            match q, hq with
            | 0, _ =>
              refine ⟨_, _, c_odds_0 s4.1 s2 s3.1 s1 hσ hσ0 hw (by omega) et tt (sil_pos l2.2.1), m_odds_0 s4.2 s2 s3.2 s1 hσ hσ0 hw (by omega) (mt.trans et) tt, fun r _ _ _ h => ⟨_, ⟨_, rfl⟩, h.1⟩, fun r I1 J1 G1 r' I2 J2 G2 h k => ?_⟩
              obtain ⟨rfl, rfl, ⟨u, v, rfl⟩, f, rfl⟩ := h
              obtain ⟨rfl, rfl, rfl, rfl⟩ := k
              exact ⟨⟨_, ⟨_, rfl⟩, rfl, by rw [ek, eo]⟩, ⟨Wk, P, hT, hS, hJ, hL, h1, h2⟩⟩
            | 1, _ =>
              refine ⟨_, _, c_odds_1 s4.1 s2 s3.1 s1 hσ hσ0 hw (by omega) et tt (sil_pos l2.2.1), m_odds_1 s4.2 s2 s3.2 s1 hσ hσ0 hw (by omega) (mt.trans et) tt, fun r _ _ _ h => ⟨_, ⟨_, rfl⟩, h.1⟩, fun r I1 J1 G1 r' I2 J2 G2 h k => ?_⟩
              obtain ⟨rfl, rfl, ⟨u, v, rfl⟩, f, rfl⟩ := h
              obtain ⟨rfl, rfl, rfl, rfl⟩ := k
              exact ⟨⟨_, ⟨_, rfl⟩, rfl, by rw [ek, eo]⟩, ⟨Wk, P, hT, hS, hJ, hL, h1, h2⟩⟩
/-- the plan's recursion is alike on both sides -/
theorem pl_eq {Wk P K : Nat} {o : Nat} (hS : RS Wk P (I 2 6) (I 2 7) (I 2 8) (G 12) (G 13) (G 16) (G 17) (Gm 2 0) (Gm 5 0) (Gm 10 0) (Gm 3) (Gm 4) (Gm 8) (Gm 9)) (l3 : lgEq K (G 24) (G 25) (Gm 11)) : ∀ n, n ≤ Wk → ∀ left, plV (fun m w => wor (Gm 11) (Gm 8) (Gm 4 w) (Gm 3 w) P m) (fun w => setN (fun s => decide (Gm 9 s ≤ nI w)) P) Wk n left = plV (fun m w => wor (G 24) (G 16) (G 13 w) (G 12 w) P m) (fun w => setN (fun s => decide (G 17 s ≤ nI w)) P) Wk n left := by
  obtain ⟨s1, s2, s3, s4, s5, s6, s7⟩ := id hS
  exact plV_c (fun w hw m => wor_c s2 (fun s hs => sil_c l3.1 hs) (fun s hs => (s7 s hs).1) (s6 w hw).2.2 (s6 w hw).2.1) (fun w hw => setN_c P (fun j hj => by rw [(s7 j hj).2]))
theorem b_plan (hR : Rl I J G Im Jm Gm) (x : Int32) : Both isI mX6_plan mX7_plan [.int x] I J G Im Jm Gm := by
  obtain ⟨Wk, P, hT, hS, hJ, hL, h1, h2⟩ := id hR
  obtain ⟨s1, s2, s3, s4, s5, s6, s7⟩ := id hS
  obtain ⟨K, l1, l2, l3⟩ := id hL
  obtain ⟨t, ht, e0⟩ := l2.2.1.1
  have e0m : Gm 11 0 = nI t := (l3.1 0 (by omega)).trans e0
  have ep := pl_eq (o := 0) hS l3
  have es : setN (fun s => decide (Gm 11 (3 + s) = nI 0)) P = setN (fun s => decide (G 24 (3 + s) = nI 0)) P := setN_c P (fun j hj => by rw [l3.1 _ (by omega)])
  by_cases hx1 : x = -nI 1
  · subst hx1
    refine ⟨_, _, c_plan_all s4.1 s2 s3.1 s1 e0 (by omega) (sil_pos l2.2.1), m_plan_all s4.2 s2 s3.2 s1 e0m (by omega) ht, fun r _ _ _ h => ⟨_, ⟨_, rfl⟩, h.1⟩, fun r I1 J1 G1 r' I2 J2 G2 h k => ?_⟩
    obtain ⟨rfl, rfl, rfl, b, c, v, rfl⟩ := h
    obtain ⟨rfl, rfl, rfl, b', c', rfl⟩ := k
    exact ⟨⟨_, ⟨_, rfl⟩, rfl, by rw [ep _ (by omega), es]⟩, ⟨Wk, P, hT, hS, hJ, hL, h1, h2⟩⟩
  · rcases idxc x Wk with hx | ⟨w, hw, rfl⟩
    · exact both_pe (c_plan_bad s3.1 s1 hx hx1) (m_plan_bad s3.2 s1 e0m (by omega) ht hx hx1) rfl hR
    · by_cases htw : w < t
      · exact both_pe (c_plan_early s4.1 s2 s3.1 s1 e0 (by omega) htw hw) (m_plan_early s3.2 s1 e0m (by omega) ht htw hw) rfl hR
      · refine ⟨_, _, c_plan_ok s4.1 s2 s3.1 s1 e0 (by omega) (by omega) hw (sil_pos l2.2.1), m_plan_ok s4.2 s2 s3.2 s1 e0m (by omega) ht (by omega) hw, fun r _ _ _ h => ⟨_, ⟨_, rfl⟩, h.1⟩, fun r I1 J1 G1 r' I2 J2 G2 h k => ?_⟩
        obtain ⟨rfl, rfl, rfl, b, c, v, rfl⟩ := h
        obtain ⟨rfl, rfl, rfl, b', c', rfl⟩ := k
        refine ⟨⟨_, ⟨_, rfl⟩, rfl, ?_⟩, ⟨Wk, P, hT, hS, hJ, hL, h1, h2⟩⟩
        rw [lfP_c (Wk := Wk) (fun w hw u => congrArg chO (ep (Wk - w) (by omega) u)) _ (by omega), es, ep _ (by omega)]
theorem b_late (hR : Rl I J G Im Jm Gm) : Both isI mX6_late mX7_late [] I J G Im Jm Gm := by
  obtain ⟨Wk, P, hT, hS, hJ, hL, h1, h2⟩ := id hR
  obtain ⟨s1, s2, s3, s4, s5, s6, s7⟩ := id hS
  obtain ⟨K, l1, l2, l3⟩ := id hL
  obtain ⟨t, ht, e0⟩ := l2.2.1.1
  have e0m : Gm 11 0 = nI t := (l3.1 0 (by omega)).trans e0
  have ep := pl_eq (o := 0) hS l3
  have es : setN (fun s => decide (Gm 11 (3 + s) = nI 0)) P = setN (fun s => decide (G 24 (3 + s) = nI 0)) P := setN_c P (fun j hj => by rw [l3.1 _ (by omega)])
  refine ⟨_, _, c_late s4.1 s2 s3.1 s1 e0 (by omega) (sil_pos l2.2.1), m_late s4.2 s2 s3.2 s1 e0m (by omega) ht, fun r _ _ _ h => ⟨_, ⟨_, rfl⟩, h.1⟩, fun r I1 J1 G1 r' I2 J2 G2 h k => ?_⟩
  obtain ⟨rfl, rfl, rfl, b, c, v, rfl⟩ := h
  obtain ⟨rfl, rfl, rfl, b', c', rfl⟩ := k
  exact ⟨⟨_, ⟨_, rfl⟩, rfl, by rw [ep _ (by omega), es]⟩, ⟨Wk, P, hT, hS, hJ, hL, h1, h2⟩⟩
end BOTHE
